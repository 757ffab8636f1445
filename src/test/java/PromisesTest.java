/** Each promise of the document: ordinary inputs, its edges, and wrong inputs. */
public final class PromisesTest {
    private static final int NONE = ProfileRights.NONE;
    private static final int ALL_HOURS = 0xFFFFFF;
    private static final int[] NO_NUMBERS = {0, -1, Integer.MIN_VALUE, Integer.MAX_VALUE};

    private PromisesTest() {
    }

    public static void main(String[] args) {
        promise1NewObject();
        promise2Group();
        promise3Move();
        promise4User();
        promise5Terminal();
        promise6Revoke();
        promise7Pass();
        promise8Mode();
        promise9Profile();
        promise10Name();
        promise11Universal();
        promise12Permit();
        promise12PermitRefuses();
        promise13Condition();
        promise14Ask();
        promise15MayOrder();
        promise15MayRefuses();
        promise15Hours();
        promise16Matched();
        promise17Audit();
        promise18Who();
        promise19And20Surrogates();
        promise21Count();
        fittingNames();
        mostSpecial();
        globalProfiles();
        levels();
        thrownCallsChangeNothing();
        Check.end("PromisesTest");
    }

    /** A group 1 with users 1 and 2 in it. */
    private static ProfileRights two() {
        ProfileRights x = new ProfileRights();
        x.group(0);
        x.user(1);
        x.user(1);
        return x;
    }

    private static int guard(ProfileRights x, int cls, String name) {
        int p = x.profile(cls, 1);
        for (char c : name.toCharArray()) {
            x.name(p, c);
        }
        return p;
    }

    private static int may(ProfileRights x, int user, int cls, int level, String name) {
        return mayAt(x, user, cls, level, name, 0);
    }

    private static int mayAt(ProfileRights x, int user, int cls, int level, String name, long t) {
        for (char c : name.toCharArray()) {
            x.ask(c);
        }
        return x.may(user, cls, level, t);
    }

    private static void matches(String what, ProfileRights x, String name, int profile) {
        may(x, 1, 0, 4, name);
        Check.same(what + " for " + name, x.matched(), profile);
    }

    private static void promise1NewObject() {
        ProfileRights x = new ProfileRights();
        for (int what = 0; what <= 5; what++) {
            Check.same("count of a new object", x.count(what), 0);
        }
        Check.same("matched of a new object", x.matched(), 0);
        Check.same("audit of a new object", x.audit(0, 0), NONE);
        Check.same("first character asked", x.ask('A'), 1);
        Check.same("NONE", NONE, -1);
        x.group(0);
        Check.same("objects share nothing", new ProfileRights().count(0), 0);
    }

    private static void promise2Group() {
        ProfileRights x = new ProfileRights();
        Check.refused("group below a missing one", () -> x.group(1));
        Check.refused("group below -1", () -> x.group(-1));
        Check.same("first group", 1, () -> x.group(0));
        Check.same("group below another", 2, () -> x.group(1));
        Check.same("group below none", 3, () -> x.group(0));
        for (int i = 4; i <= 20; i++) {
            Check.same("group " + i, x.group(i - 1), i);
        }
        Check.full("group 21", () -> x.group(0));
        Check.full("group 21 below another", () -> x.group(20));
        Check.refused("group 21 below a missing one", () -> x.group(21));
        Check.same("groups", x.count(0), 20);
    }

    private static void promise3Move() {
        ProfileRights x = new ProfileRights();
        x.group(0);
        x.group(1);
        x.group(2);
        x.group(0);
        Check.same("below itself", 0, () -> x.move(2, 2));
        Check.same("below the one just below", 0, () -> x.move(1, 2));
        Check.same("below one far below", 0, () -> x.move(1, 3));
        Check.same("to another tree", 1, () -> x.move(2, 4));
        Check.same("now not below any more", 1, () -> x.move(1, 3));
        Check.same("now far below", 0, () -> x.move(4, 1));
        Check.same("below none", 1, () -> x.move(1, 0));
        Check.same("where it is", 1, () -> x.move(1, 0));
        Check.same("where it is, below another", 1, () -> x.move(3, 2));
        for (int none : new int[] {0, 5, -1, Integer.MIN_VALUE}) {
            Check.refused("moving a missing group", () -> x.move(none, 0));
        }
        for (int none : new int[] {5, -1, Integer.MIN_VALUE}) {
            Check.refused("moving below a missing group", () -> x.move(1, none));
        }
        moveChangesLevels();
    }

    private static void moveChangesLevels() {
        ProfileRights x = new ProfileRights();
        x.group(0);
        x.group(0);
        x.user(2);
        x.mode(0, 2);
        int p = guard(x, 0, "A");
        x.permit(p, -1, 4);
        Check.same("not below group 1 yet", may(x, 1, 0, 4, "A"), 0);
        x.move(2, 1);
        Check.same("below group 1", may(x, 1, 0, 4, "A"), 1);
        x.move(1, 2);
        Check.same("a refused move changes nothing", may(x, 1, 0, 4, "A"), 1);
        x.move(2, 0);
        Check.same("not below group 1 any more", may(x, 1, 0, 4, "A"), 0);
    }

    private static void promise4User() {
        ProfileRights x = new ProfileRights();
        Check.refused("user of a missing group", () -> x.user(1));
        Check.refused("user of no group", () -> x.user(0));
        x.group(0);
        for (int i = 1; i <= 40; i++) {
            Check.same("user " + i, x.user(1), i);
        }
        Check.full("user 41", () -> x.user(1));
        Check.refused("user 41 of a missing group", () -> x.user(2));
        Check.refused("user 41 of group -1", () -> x.user(-1));
        Check.same("users", x.count(1), 40);
    }

    private static void promise5Terminal() {
        ProfileRights x = two();
        Check.same("terminal at first", 0, () -> x.terminal(1, 99));
        Check.same("terminal then", 99, () -> x.terminal(1, 7));
        Check.same("another user's terminal", 0, () -> x.terminal(2, 5));
        Check.refused("terminal 100", () -> x.terminal(1, 100));
        Check.refused("terminal -1", () -> x.terminal(1, -1));
        Check.same("terminal behind refused ones", 7, () -> x.terminal(1, 0));
        Check.refused("terminal of user 3", () -> x.terminal(3, 0));
        for (int none : NO_NUMBERS) {
            Check.refused("terminal of a missing user", () -> x.terminal(none, 0));
        }
    }

    private static void promise6Revoke() {
        ProfileRights x = two();
        Check.same("not revoked already", 0, () -> x.revoke(1, false));
        Check.same("revoked", 1, () -> x.revoke(1, true));
        Check.same("revoked already", 0, () -> x.revoke(1, true));
        Check.same("a revoked user", may(x, 1, 0, 1, "A"), 0);
        Check.same("another user", may(x, 2, 0, 1, "A"), 1);
        Check.same("not any more", 1, () -> x.revoke(1, false));
        Check.same("then there are 3 tries", x.pass(1, false), 2);
        Check.same("not revoked as it was", 0, () -> x.revoke(1, false));
        Check.same("tries stay where nothing came", x.pass(1, false), 1);
        x.revoke(1, true);
        x.revoke(1, false);
        Check.same("3 tries again", x.pass(1, false), 2);
        Check.refused("user 3", () -> x.revoke(3, true));
        for (int none : NO_NUMBERS) {
            Check.refused("revoking a missing user", () -> x.revoke(none, true));
        }
    }

    private static void promise7Pass() {
        ProfileRights x = two();
        Check.same("right", x.pass(1, true), 3);
        Check.same("first wrong", x.pass(1, false), 2);
        Check.same("second wrong", x.pass(1, false), 1);
        Check.same("right behind wrong ones", x.pass(1, true), 3);
        x.pass(1, false);
        x.pass(1, false);
        Check.same("not revoked yet", x.count(4), 0);
        Check.same("third wrong", x.pass(1, false), 0);
        Check.same("revoked by it", x.count(4), 1);
        Check.same("right when revoked", x.pass(1, true), NONE);
        Check.same("wrong when revoked", x.pass(1, false), NONE);
        Check.same("still revoked", x.count(4), 1);
        x.revoke(1, false);
        Check.same("3 tries when not revoked any more", x.pass(1, false), 2);
        Check.same("another user's tries", x.pass(2, false), 2);
        x.revoke(2, true);
        Check.same("revoked by revoke", x.pass(2, true), NONE);
        Check.refused("user 3", () -> x.pass(3, true));
        for (int none : NO_NUMBERS) {
            Check.refused("a missing user's password", () -> x.pass(none, false));
        }
    }

    private static void promise8Mode() {
        ProfileRights x = two();
        for (int cls = 0; cls <= 7; cls++) {
            int c = cls;
            Check.same("mode at first", 0, () -> x.mode(c, 1 + c % 2));
            Check.same("mode then", 1 + c % 2, () -> x.mode(c, 0));
        }
        x.mode(3, 2);
        for (int none : new int[] {8, -1, Integer.MIN_VALUE, Integer.MAX_VALUE}) {
            Check.refused("a missing class", () -> x.mode(none, 0));
        }
        for (int none : new int[] {3, -1, Integer.MIN_VALUE, Integer.MAX_VALUE}) {
            Check.refused("a missing mode", () -> x.mode(3, none));
        }
        Check.same("mode behind refused ones", 2, () -> x.mode(3, 2));
    }

    private static void promise9Profile() {
        ProfileRights x = two();
        Check.refused("class 8", () -> x.profile(8, 1));
        Check.refused("class -1", () -> x.profile(-1, 1));
        Check.refused("owner 3", () -> x.profile(0, 3));
        for (int none : NO_NUMBERS) {
            Check.refused("a missing owner", () -> x.profile(0, none));
        }
        for (int i = 1; i <= 60; i++) {
            Check.same("profile " + i, x.profile(i % 8, 1 + i % 2), i);
        }
        Check.full("profile 61", () -> x.profile(0, 1));
        Check.refused("profile 61 of class 8", () -> x.profile(8, 1));
        Check.refused("profile 61 of owner 3", () -> x.profile(0, 3));
        x.mode(0, 2);
        matches("an empty name", x, "", 8);
        matches("an empty name", x, "A", 0);
        ownerHasNoRight();
    }

    private static void ownerHasNoRight() {
        ProfileRights x = two();
        x.mode(0, 2);
        guard(x, 0, "A");
        Check.same("an owner", may(x, 1, 0, 1, "A"), 0);
    }

    private static void promise10Name() {
        ProfileRights x = two();
        Check.refused("no such profile", () -> x.name(1, 'A'));
        x.profile(0, 1);
        x.profile(0, 1);
        for (int none : NO_NUMBERS) {
            Check.refused("no such profile", () -> x.name(none, 'A'));
        }
        Check.refused("profile 3", () -> x.name(3, 'A'));
        for (int none : new int[] {32, 127, 0, -1, 65 + 256, Integer.MAX_VALUE, Integer.MIN_VALUE}) {
            Check.refused("no such character", () -> x.name(1, none));
        }
        Check.same("first character there is", x.name(1, 33), 1);
        Check.same("last character there is", x.name(1, 126), 2);
        for (int i = 3; i <= 20; i++) {
            Check.same("character " + i, x.name(1, 'A'), i);
        }
        Check.full("character 21", () -> x.name(1, 'A'));
        Check.refused("a wrong character 21", () -> x.name(1, 32));
        Check.same("another profile's name", x.name(2, 'A'), 1);
        x.mode(0, 2);
        matches("a full name", x, "!~AAAAAAAAAAAAAAAAAA", 1);
        matches("a full name", x, "!~AAAAAAAAAAAAAAAAA", 0);
    }

    private static void promise11Universal() {
        ProfileRights x = two();
        Check.refused("no such profile", () -> x.universal(1, 0, 0));
        x.profile(0, 1);
        Check.same("at first", 0, () -> x.universal(1, 4, 7));
        Check.same("8 * 4 + 7", 39, () -> x.universal(1, 3, 2));
        Check.same("8 * 3 + 2", 26, () -> x.universal(1, 0, 5));
        for (int none : new int[] {5, -1, Integer.MIN_VALUE, Integer.MAX_VALUE}) {
            Check.refused("no such level", () -> x.universal(1, none, 0));
        }
        for (int none : new int[] {8, -1, Integer.MIN_VALUE, Integer.MAX_VALUE}) {
            Check.refused("no such marks", () -> x.universal(1, 0, none));
        }
        for (int none : NO_NUMBERS) {
            Check.refused("no such profile", () -> x.universal(none, 0, 0));
        }
        Check.same("behind refused ones", 5, () -> x.universal(1, 0, 0));
    }

    private static void promise12Permit() {
        ProfileRights x = two();
        x.profile(0, 1);
        x.profile(0, 1);
        x.mode(0, 2);
        Check.same("new entry", NONE, () -> x.permit(1, 1, 2));
        Check.same("its level", 2, () -> x.permit(1, 1, 0));
        Check.same("level 0 is an entry", 0, () -> x.permit(1, 1, 4));
        Check.same("a group's entry is another", NONE, () -> x.permit(1, -1, 3));
        Check.same("another profile's is another", NONE, () -> x.permit(2, 1, 3));
        Check.same("entries", x.count(5), 3);
        Check.same("it goes", 4, () -> x.permit(1, 1, NONE));
        Check.same("it is gone", NONE, () -> x.permit(1, 1, NONE));
        Check.same("entries then", x.count(5), 2);
        Check.same("the group's stays", 3, () -> x.permit(1, -1, 1));
        permitAndConditions();
    }

    private static void permitAndConditions() {
        ProfileRights x = two();
        x.profile(0, 1);
        x.mode(0, 2);
        x.permit(1, 1, 4);
        Check.same("a new one is open at any terminal and hour", mayAt(x, 1, 0, 4, "", 23 * 60), 1);
        x.condition(1, 1, 5, 1);
        x.permit(1, 1, 3);
        Check.same("another level keeps the terminal", may(x, 1, 0, 3, ""), 0);
        x.terminal(1, 5);
        Check.same("another level counts", may(x, 1, 0, 4, ""), 0);
        Check.same("and is open", may(x, 1, 0, 3, ""), 1);
        Check.same("another level keeps the hours", mayAt(x, 1, 0, 3, "", 60), 0);
        x.permit(1, 1, NONE);
        Check.same("gone", may(x, 1, 0, 3, ""), 0);
        x.permit(1, 1, 3);
        x.terminal(1, 0);
        Check.same("come again it is new", mayAt(x, 1, 0, 3, "", 60), 1);
    }

    private static void promise12PermitRefuses() {
        ProfileRights x = two();
        for (int i = 3; i <= 12; i++) {
            x.user(1);
        }
        x.profile(0, 1);
        for (int none : new int[] {0, 13, -2, Integer.MIN_VALUE, Integer.MAX_VALUE}) {
            Check.refused("who " + none, () -> x.permit(1, none, 1));
        }
        for (int none : new int[] {5, -2, Integer.MIN_VALUE, Integer.MAX_VALUE}) {
            Check.refused("level " + none, () -> x.permit(1, 1, none));
        }
        Check.refused("profile 2", () -> x.permit(2, 1, 1));
        for (int none : NO_NUMBERS) {
            Check.refused("a missing profile", () -> x.permit(none, 1, 1));
        }
        for (int i = 1; i <= 10; i++) {
            Check.same("entry " + i, x.permit(1, i, 1), NONE);
        }
        Check.full("entry 11", () -> x.permit(1, 11, 1));
        Check.full("entry 11 for a group", () -> x.permit(1, -1, 0));
        Check.refused("entry 11 of level 5", () -> x.permit(1, 11, 5));
        Check.refused("entry 11 for user 13", () -> x.permit(1, 13, 1));
        Check.same("an old entry of a full list", 1, () -> x.permit(1, 3, 2));
        Check.same("a missing entry goes from a full list", NONE, () -> x.permit(1, 11, NONE));
        Check.same("one goes", 2, () -> x.permit(1, 3, NONE));
        Check.same("there is room again", NONE, () -> x.permit(1, 11, 1));
        Check.same("entries", x.count(5), 10);
    }

    private static void promise13Condition() {
        ProfileRights x = two();
        x.profile(0, 1);
        x.mode(0, 2);
        Check.same("no such entry", 0, () -> x.condition(1, 1, 0, 0));
        Check.same("nor made by it", x.count(5), 0);
        x.permit(1, 1, 4);
        Check.same("another one's entry", 0, () -> x.condition(1, -1, 0, 0));
        Check.same("the entry", 1, () -> x.condition(1, 1, 99, ALL_HOURS));
        Check.same("elsewhere", may(x, 1, 0, 4, ""), 0);
        x.terminal(1, 99);
        Check.same("there", may(x, 1, 0, 4, ""), 1);
        x.condition(1, 1, 0, 0);
        Check.same("at no hour", may(x, 1, 0, 4, ""), 0);
        x.condition(1, 1, 0, 0xFF000000);
        Check.same("bits above the 24 lowest", may(x, 1, 0, 4, ""), 0);
        x.condition(1, 1, 0, -1);
        Check.same("all bits", mayAt(x, 1, 0, 4, "", 23 * 60), 1);
        for (int none : new int[] {100, -1, Integer.MIN_VALUE, Integer.MAX_VALUE}) {
            Check.refused("terminal " + none, () -> x.condition(1, 1, none, 0));
            Check.refused("terminal " + none + " without an entry", () -> x.condition(1, 2, none, 0));
        }
        for (int none : new int[] {0, 3, -2, Integer.MIN_VALUE, Integer.MAX_VALUE}) {
            Check.refused("who " + none, () -> x.condition(1, none, 0, 0));
        }
        Check.refused("profile 2", () -> x.condition(2, 1, 0, 0));
        for (int none : NO_NUMBERS) {
            Check.refused("a missing profile", () -> x.condition(none, 1, 0, 0));
        }
        Check.same("behind refused ones", may(x, 1, 0, 4, ""), 1);
    }

    private static void promise14Ask() {
        ProfileRights x = two();
        x.mode(0, 2);
        int p = guard(x, 0, "AAAAAAAAAAAAAAAAAAAA");
        for (int other : new int[] {32, 127, 0, -1, 65 + 256, Integer.MIN_VALUE, Integer.MAX_VALUE}) {
            Check.same("first there is", x.ask(33), 1);
            Check.same("last there is", x.ask(126), 2);
            Check.same("asking " + other, x.ask(other), 0);
        }
        for (int i = 1; i <= 20; i++) {
            Check.same("character " + i, x.ask('A'), i);
        }
        Check.same("the 21st", x.ask('B'), 20);
        Check.same("the 22nd", x.ask('C'), 20);
        x.may(1, 0, 1, 0);
        Check.same("the 21st and more are lost", x.matched(), p);
        Check.same("it is empty behind may", x.ask('A'), 1);
    }

    private static void promise15MayOrder() {
        ProfileRights x = two();
        Check.same("off", may(x, 1, 0, 4, "A"), 1);
        x.mode(0, 1);
        Check.same("on, no profile", may(x, 1, 0, 4, "A"), 1);
        x.mode(0, 2);
        Check.same("strict, no profile", may(x, 1, 0, 4, "A"), 0);
        Check.same("another class is off", may(x, 1, 7, 4, "A"), 1);
        int p = guard(x, 0, "A");
        x.universal(p, 2, 0);
        Check.same("below the level", may(x, 1, 0, 1, "A"), 1);
        Check.same("at the level", may(x, 1, 0, 2, "A"), 1);
        Check.same("above the level", may(x, 1, 0, 3, "A"), 0);
        x.mode(0, 1);
        Check.same("above the level, mode 1", may(x, 1, 0, 3, "A"), 0);
        x.universal(p, 2, 1);
        Check.same("with a warning", may(x, 1, 0, 3, "A"), 2);
        Check.same("without a warning", may(x, 1, 0, 2, "A"), 1);
        x.mode(0, 0);
        Check.same("off again", may(x, 1, 0, 3, "A"), 1);
        x.revoke(1, true);
        Check.same("revoked before off", may(x, 1, 0, 1, "A"), 0);
        x.mode(0, 2);
        x.universal(p, 4, 7);
        Check.same("revoked before global and warning", may(x, 1, 0, 1, "A"), 0);
        Check.same("not revoked", may(x, 2, 0, 1, "A"), 1);
    }

    private static void promise15MayRefuses() {
        ProfileRights x = two();
        x.mode(0, 2);
        int p = guard(x, 0, "AB");
        may(x, 1, 0, 1, "AB");
        x.ask('A');
        x.ask('B');
        Check.refused("user 3", () -> x.may(3, 0, 1, 0));
        for (int none : NO_NUMBERS) {
            Check.refused("a missing user", () -> x.may(none, 0, 1, 0));
        }
        for (int none : new int[] {8, -1, Integer.MIN_VALUE, Integer.MAX_VALUE}) {
            Check.refused("class " + none, () -> x.may(1, none, 1, 0));
        }
        for (int none : new int[] {0, 5, -1, Integer.MIN_VALUE, Integer.MAX_VALUE}) {
            Check.refused("level " + none, () -> x.may(1, 0, none, 0));
        }
        Check.refused("time -1", () -> x.may(1, 0, 1, -1L));
        Check.refused("the least time", () -> x.may(1, 0, 1, Long.MIN_VALUE));
        Check.same("matched stays", x.matched(), p);
        Check.same("the audit stays", x.count(3), 1);
        Check.same("the name stays", x.ask('C'), 3);
        x.ask(0);
        x.revoke(2, true);
        x.ask('A');
        x.may(2, 0, 1, 0);
        Check.same("the name is empty behind a revoked one's may", x.ask('A'), 1);
        x.may(1, 7, 1, 0);
        Check.same("the name is empty behind a class that is off", x.ask('A'), 1);
    }

    private static void promise15Hours() {
        ProfileRights x = two();
        x.mode(0, 2);
        x.profile(0, 1);
        x.permit(1, 1, 4);
        for (int hour = 0; hour < 24; hour++) {
            x.condition(1, 1, 0, 1 << hour);
            long start = 60L * hour;
            Check.same("first minute of hour " + hour, x.may(1, 0, 4, start), 1);
            Check.same("last minute of hour " + hour, x.may(1, 0, 4, start + 59 + 1440), 1);
            Check.same("minute behind hour " + hour, x.may(1, 0, 4, start + 60), 0);
            Check.same("minute ahead of hour " + hour, x.may(1, 0, 4, start + 1439), 0);
        }
        int last = (int) (Long.MAX_VALUE / 60 % 24);
        x.condition(1, 1, 0, 1 << last);
        Check.same("the last time there is", x.may(1, 0, 4, Long.MAX_VALUE), 1);
        x.condition(1, 1, 0, ~(1 << last));
        Check.same("the last time there is, not open", x.may(1, 0, 4, Long.MAX_VALUE), 0);
    }

    private static void promise16Matched() {
        ProfileRights x = two();
        x.mode(0, 2);
        guard(x, 0, "B");
        int p = guard(x, 0, "A");
        matches("no", x, "A", p);
        matches("no profile", x, "C", 0);
        x.universal(p, 0, 1);
        matches("warning", x, "A", p);
        x.universal(p, 4, 0);
        matches("yes", x, "A", p);
        Check.same("asked again", x.matched(), p);
        x.ask('Z');
        Check.same("ask changes nothing of it", x.matched(), p);
        x.ask(0);
        x.mode(0, 0);
        matches("off", x, "A", 0);
        x.mode(0, 2);
        matches("yes again", x, "A", p);
        x.revoke(1, true);
        matches("revoked", x, "A", 0);
    }

    private static void promise17Audit() {
        ProfileRights x = two();
        x.mode(5, 2);
        int p = guard(x, 5, "A");
        x.universal(p, 2, 0);
        may(x, 2, 5, 1, "A");
        Check.same("a yes without the mark", x.count(3), 0);
        x.universal(p, 2, 1);
        may(x, 2, 5, 1, "A");
        Check.same("a yes with the mark of warning alone", x.count(3), 0);
        x.universal(p, 2, 0);
        may(x, 2, 5, 3, "A");
        row("a no", x, 0, 2, 5, 3, 0, p);
        x.universal(p, 2, 3);
        may(x, 2, 5, 4, "A");
        row("a warning", x, 1, 2, 5, 4, 2, p);
        may(x, 1, 5, 2, "A");
        row("an audited yes", x, 2, 1, 5, 2, 1, p);
        may(x, 1, 5, 1, "B");
        row("a no by none", x, 3, 1, 5, 1, 0, 0);
        x.universal(p, 4, 6);
        may(x, 1, 5, 1, "A");
        Check.same("a yes by a global one", x.count(3), 4);
        x.mode(5, 1);
        may(x, 1, 5, 1, "B");
        x.mode(5, 0);
        may(x, 1, 5, 1, "A");
        Check.same("a yes by none", x.count(3), 4);
        x.revoke(1, true);
        may(x, 1, 5, 1, "A");
        row("a revoked one's no", x, 4, 1, 5, 1, 0, 0);
        auditNones(x, 5);
        auditKeeps200();
    }

    private static void row(String what, ProfileRights x, int i, int... cells) {
        for (int k = 0; k < cells.length; k++) {
            Check.same(what + ", cell " + k, x.audit(i, k), cells[k]);
        }
        Check.same(what + ", rows", x.count(3), i + 1);
    }

    private static void auditNones(ProfileRights x, int rows) {
        for (int i : new int[] {rows, -1, Integer.MIN_VALUE, Integer.MAX_VALUE}) {
            Check.same("no row " + i, x.audit(i, 0), NONE);
        }
        for (int what : new int[] {5, -1, Integer.MIN_VALUE, Integer.MAX_VALUE}) {
            Check.same("no cell " + what, x.audit(0, what), NONE);
        }
    }

    private static void auditKeeps200() {
        ProfileRights x = two();
        x.mode(0, 2);
        for (int i = 0; i < 203; i++) {
            x.may(1 + i % 2, 0, 1 + i % 4, i);
        }
        Check.same("all rows that were written", x.count(3), 203);
        Check.same("row 0", x.audit(0, 0), 1);
        Check.same("the 200th row's user", x.audit(199, 0), 2);
        Check.same("the 200th row's level", x.audit(199, 2), 4);
        Check.same("the 200th row's profile", x.audit(199, 4), 0);
        Check.same("the 201st row", x.audit(200, 0), NONE);
        Check.same("the 203rd row", x.audit(202, 3), NONE);
    }

    private static void promise18Who() {
        ProfileRights x = two();
        x.group(1);
        Check.refused("no such profile", () -> x.who(1, 0));
        x.profile(0, 1);
        x.profile(0, 1);
        Check.same("an empty list", x.who(1, 0), 0);
        x.permit(1, 2, 1);
        x.permit(1, -2, 1);
        x.permit(1, 1, 0);
        x.permit(1, 2, 4);
        list("in the order in which they came", x, 2, -2, 1, 0);
        x.permit(1, -2, NONE);
        list("one is gone", x, 2, 1, 0);
        x.permit(1, -2, 1);
        list("come again it is last", x, 2, 1, -2, 0);
        x.permit(1, 2, NONE);
        x.permit(1, -1, 1);
        list("the first one is gone", x, 1, -2, -1, 0);
        for (int i : new int[] {-1, 10, Integer.MIN_VALUE, Integer.MAX_VALUE}) {
            Check.same("entry " + i, x.who(1, i), 0);
        }
        Check.same("another profile's list", x.who(2, 0), 0);
        Check.refused("profile 3", () -> x.who(3, 0));
        for (int none : NO_NUMBERS) {
            Check.refused("a missing profile", () -> x.who(none, 0));
        }
    }

    private static void list(String what, ProfileRights x, int... whos) {
        for (int i = 0; i < whos.length; i++) {
            Check.same(what + ", entry " + i, x.who(1, i), whos[i]);
        }
    }

    private static void promise19And20Surrogates() {
        ProfileRights x = new ProfileRights();
        x.group(0);
        for (int i = 1; i <= 40; i++) {
            x.user(1);
        }
        Check.same("at first", 0, () -> Check.told(x.acts(1, 40)));
        Check.same("for itself", 1, () -> Check.told(x.acts(40, 40)));
        Check.same("not as it was", 0, () -> x.surrogate(1, 40, false));
        Check.same("from now on", 1, () -> x.surrogate(1, 40, true));
        Check.same("as it was", 0, () -> x.surrogate(1, 40, true));
        Check.same("acts", 1, () -> Check.told(x.acts(1, 40)));
        Check.same("not the other way", 0, () -> Check.told(x.acts(40, 1)));
        for (int other = 2; other < 40; other++) {
            Check.same("not for " + other, Check.told(x.acts(1, other)), 0);
        }
        x.surrogate(40, 2, true);
        Check.same("not by way of another", 0, () -> Check.told(x.acts(1, 2)));
        Check.same("another one besides", 1, () -> x.surrogate(1, 33, true));
        Check.same("the first stays", 1, () -> Check.told(x.acts(1, 40)));
        Check.same("not any more", 1, () -> x.surrogate(1, 40, false));
        Check.same("does not act", 0, () -> Check.told(x.acts(1, 40)));
        Check.same("the second stays", 1, () -> Check.told(x.acts(1, 33)));
        Check.same("both are one, on", 0, () -> x.surrogate(3, 3, true));
        Check.same("both are one, off", 0, () -> x.surrogate(3, 3, false));
        Check.same("still for itself", 1, () -> Check.told(x.acts(3, 3)));
        for (int none : new int[] {41, 0, -1, Integer.MIN_VALUE, Integer.MAX_VALUE}) {
            Check.refused("acts, no user", () -> Check.told(x.acts(none, 1)));
            Check.refused("acts, no other", () -> Check.told(x.acts(1, none)));
            Check.refused("acts, neither", () -> Check.told(x.acts(none, none)));
            Check.refused("surrogate, no user", () -> x.surrogate(none, 1, true));
            Check.refused("surrogate, no other", () -> x.surrogate(1, none, true));
            Check.refused("surrogate, neither", () -> x.surrogate(none, none, true));
        }
    }

    private static void promise21Count() {
        ProfileRights x = two();
        x.group(1);
        x.user(2);
        x.profile(0, 1);
        x.profile(1, 1);
        x.permit(1, 1, 0);
        x.permit(1, -1, 0);
        x.permit(2, 1, 0);
        x.mode(0, 2);
        x.may(1, 0, 1, 0);
        x.revoke(1, true);
        x.revoke(3, true);
        int[] due = {2, 3, 2, 1, 2, 3};
        for (int what = 0; what < due.length; what++) {
            Check.same("count " + what, x.count(what), due[what]);
        }
        x.revoke(3, false);
        Check.same("one revoked less", x.count(4), 1);
        x.permit(2, 1, NONE);
        Check.same("one entry less", x.count(5), 2);
        for (int what : new int[] {6, -1, Integer.MIN_VALUE, Integer.MAX_VALUE}) {
            Check.same("count " + what, x.count(what), NONE);
        }
    }

    private static void fits(String pattern, String name, boolean due) {
        ProfileRights x = two();
        x.mode(0, 2);
        int p = guard(x, 0, pattern);
        may(x, 1, 0, 1, name);
        Check.same("'" + name + "' fits '" + pattern + "'", x.matched(), due ? p : 0);
    }

    private static void fittingNames() {
        fits("", "", true);
        fits("", "A", false);
        fits("A", "", false);
        fits("AB", "AB", true);
        fits("AB", "A", false);
        fits("AB", "ABC", false);
        fits("AB", "BA", false);
        fits("a", "A", false);
        fits("%", "A", true);
        fits("%", "%", true);
        fits("%", "*", true);
        fits("%", "", false);
        fits("%", "AB", false);
        fits("A%C", "ABC", true);
        fits("A%C", "AC", false);
        fits("*", "", true);
        fits("*", "ABCDEFGHIJKLMNOPQRST", true);
        fits("A*", "A", true);
        fits("A*", "AXYZ", true);
        fits("A*", "BA", false);
        fits("*A", "A", true);
        fits("*A", "AAA", true);
        fits("*A", "AAB", false);
        fits("A*B", "AB", true);
        fits("A*B", "ABAB", true);
        fits("A*B", "ABA", false);
        fits("*AB*", "XAABX", true);
        fits("*AB*", "XAXBX", false);
        fits("*AB*CD*", "ACABABCCD", true);
        fits("*AB*CD*", "CDAB", false);
        fits("**", "", true);
        fits("*%", "", false);
        fits("*%", "A", true);
        fits("%*%", "A", false);
        fits("%*%", "AB", true);
        fits("********************", "A", true);
        fits("%%%%%%%%%%%%%%%%%%%%", "ABCDEFGHIJKLMNOPQRST", true);
        fits("%%%%%%%%%%%%%%%%%%%%", "ABCDEFGHIJKLMNOPQRS", false);
        fits("*A*A*A*A*A*A*A*A*A*B", "AAAAAAAAAAAAAAAAAAAA", false);
        fits("A", "%", false);
        fits("A", "*", false);
    }

    private static void mostSpecial() {
        special("exact before all", "AB", "AB", "*", "A*", "AB*", "AB%*", "%%");
        special("the empty name is exact", "", "", "*");
        special("more ahead of the first % or *", "ABC", "AB*", "A%C", "A*C", "%BC", "*");
        special("more ahead, fewer others", "AXBCD", "AX*", "A*BCD");
        special("% is as generic as *", "AB", "A%", "%B", "*");
        special("more characters other than % and *", "ABC", "A*C", "A%%", "A*", "A***");
        special("more others far behind", "ABCDE", "*BCD*", "*CD*", "%*D%");
        ProfileRights x = two();
        x.mode(0, 2);
        guard(x, 0, "A%");
        guard(x, 0, "A*");
        guard(x, 0, "A*");
        matches("the lesser number", x, "AB", 1);
        matches("the lesser number of those that fit", x, "A", 2);
        guard(x, 0, "AB");
        guard(x, 0, "AB");
        matches("the lesser number of exact ones", x, "AB", 4);
        int other = guard(x, 1, "ABC");
        matches("another class's profile", x, "ABC", 2);
        x.mode(1, 2);
        may(x, 1, 1, 1, "ABC");
        Check.same("that class's profile", x.matched(), other);
        lengthIsNoMeasure();
    }

    /** The first pattern is the most special one, wherever it stands among the others. */
    private static void special(String what, String name, String... patterns) {
        for (int turn = 0; turn < patterns.length; turn++) {
            ProfileRights x = two();
            x.mode(0, 2);
            int due = 0;
            for (int i = 0; i < patterns.length; i++) {
                int k = (i + turn) % patterns.length;
                int p = guard(x, 0, patterns[k]);
                due = k == 0 ? p : due;
            }
            matches(what, x, name, due);
        }
    }

    private static void lengthIsNoMeasure() {
        ProfileRights x = two();
        x.mode(0, 2);
        guard(x, 0, "A*");
        guard(x, 0, "A%%%*");
        matches("more % or * do not count", x, "ABCD", 1);
    }

    private static void globalProfiles() {
        ProfileRights x = two();
        x.mode(0, 2);
        int wide = guard(x, 0, "*");
        int mid = guard(x, 0, "A*");
        int exact = guard(x, 0, "AB");
        x.universal(wide, 2, 6);
        x.permit(wide, 1, 0);
        Check.same("a global one before the most special one", may(x, 1, 0, 2, "AB"), 1);
        Check.same("by the global one", x.matched(), wide);
        Check.same("without an audit", x.count(3), 0);
        Check.same("its level is not enough", may(x, 1, 0, 3, "AB"), 0);
        Check.same("by the most special one", x.matched(), exact);
        x.universal(mid, 2, 4);
        may(x, 1, 0, 2, "AB");
        Check.same("by the most special one of the global ones", x.matched(), mid);
        x.universal(mid, 1, 4);
        may(x, 1, 0, 2, "AB");
        Check.same("of those whose level is enough", x.matched(), wide);
        may(x, 1, 0, 2, "B");
        Check.same("of those that fit", x.matched(), wide);
        x.universal(wide, 4, 3);
        Check.same("not global any more", may(x, 1, 0, 2, "AB"), 0);
        x.universal(wide, 0, 6);
        x.permit(wide, 1, 2);
        Check.same("a global one as the most special one", may(x, 1, 0, 2, "C"), 1);
        Check.same("it audits then", x.audit(x.count(3) - 1, 3), 1);
        Check.same("by the list", x.audit(x.count(3) - 1, 4), wide);
        int other = guard(x, 1, "*");
        x.universal(other, 4, 4);
        Check.same("another class's global one", may(x, 1, 0, 4, "C"), 0);
        x.mode(0, 1);
        x.universal(wide, 3, 4);
        Check.same("in mode 1 too", may(x, 2, 0, 3, "AB"), 1);
        Check.same("by it in mode 1", x.matched(), wide);
    }

    private static int level(ProfileRights x, int user, long t) {
        for (int level = 4; level >= 1; level--) {
            if (mayAt(x, user, 0, level, "A", t) == 1) {
                return level;
            }
        }
        return 0;
    }

    private static void levels() {
        ProfileRights x = new ProfileRights();
        x.group(0);
        x.group(1);
        x.group(2);
        x.user(3);
        x.user(1);
        x.mode(0, 2);
        int p = guard(x, 0, "A");
        x.universal(p, 1, 0);
        Check.same("the universal one", level(x, 1, 0), 1);
        x.permit(p, -1, 3);
        Check.same("the group far above", level(x, 1, 0), 3);
        x.permit(p, -2, 2);
        Check.same("the group above before it", level(x, 1, 0), 2);
        x.permit(p, -3, 0);
        Check.same("the user's group before it, with level 0", level(x, 1, 0), 0);
        x.permit(p, 1, 4);
        Check.same("the user's own before it", level(x, 1, 0), 4);
        Check.same("a user of the group above", level(x, 2, 0), 3);
        x.condition(p, 1, 0, ~1);
        Check.same("own not open", level(x, 1, 0), 0);
        Check.same("own open at another hour", level(x, 1, 60), 4);
        x.condition(p, -3, 9, ALL_HOURS);
        Check.same("the user's group not open", level(x, 1, 0), 2);
        x.terminal(1, 9);
        Check.same("open at the terminal", level(x, 1, 0), 0);
        x.terminal(1, 8);
        x.condition(p, -2, 8, 2);
        Check.same("terminal without the hour", level(x, 1, 0), 3);
        x.condition(p, -2, 9, 1);
        Check.same("hour without the terminal", level(x, 1, 0), 3);
        x.condition(p, -1, 1, 1);
        Check.same("none open", level(x, 1, 0), 1);
        x.permit(p, 2, 0);
        Check.same("own of level 0 before the universal one", level(x, 2, 0), 0);
        x.permit(p, 2, NONE);
        x.permit(p, 1, NONE);
        Check.same("a user's and a group's number are not mixed", level(x, 2, 0), 1);
    }

    private static void thrownCallsChangeNothing() {
        ProfileRights x = two();
        x.mode(0, 2);
        int p = guard(x, 0, "A");
        x.universal(p, 2, 1);
        x.permit(p, 1, 3);
        Check.refused("universal", () -> x.universal(p, 4, 8));
        Check.refused("universal", () -> x.universal(p, 5, 0));
        Check.refused("permit", () -> x.permit(p, 1, 5));
        Check.refused("condition", () -> x.condition(p, 1, 100, 0));
        Check.refused("name", () -> x.name(p, 127));
        Check.refused("mode", () -> x.mode(0, 3));
        Check.refused("move", () -> x.move(1, 2));
        Check.refused("surrogate", () -> x.surrogate(1, 3, true));
        Check.same("own level stays", may(x, 1, 0, 3, "A"), 1);
        Check.same("the warning stays", may(x, 1, 0, 4, "A"), 2);
        Check.same("universal stays", x.universal(p, 0, 0), 17);
        Check.same("the name's length stays", x.name(p, 'B'), 2);
        Check.same("entries stay", x.count(5), 1);
    }
}
