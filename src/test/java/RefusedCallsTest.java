import java.util.ArrayList;
import java.util.List;

/**
 * 'What a call throws for changes nothing', call by call, and the answers that go with 'changing nothing': behind
 * the call an object tells its state as one of the same making does that has not had the call. Of full tables the
 * first three groups and users and the first two profiles are told, so that an object stays within its 512 calls.
 */
public final class RefusedCallsTest {
    private static final int NONE = ProfileRights.NONE;

    private interface Act {
        long answer(ProfileRights x);
    }

    private RefusedCallsTest() {
    }

    public static void main(String[] args) {
        groupsAndUsers();
        classesAndProfiles();
        lists();
        askingAndActing();
        fullTables();
        unchangedByAnswer();
        readingChangesNothing();
        Check.end("RefusedCallsTest");
    }

    /** Each part of the state is other than in a new object, and there is room in all of it. */
    private static ProfileRights some() {
        ProfileRights x = Rig.row(3);
        x.user(3);
        x.user(1);
        x.user(2);
        x.mode(0, 2);
        x.mode(7, 1);
        Rig.guard(x, "A%");
        Rig.guard(x, "AB");
        x.universal(1, 2, 3);
        x.permit(2, 1, 4);
        x.permit(2, -1, 3);
        x.condition(2, 1, 5, 0x0F);
        x.terminal(1, 5);
        x.pass(2, false);
        x.revoke(3, true);
        x.surrogate(1, 2, true);
        Rig.may(x, 2, 4, "AB");
        Rig.ask(x, "AC");
        return x;
    }

    /** Nothing has room for one more; profile 1 has a full list, profile 2 a full name. */
    private static ProfileRights full() {
        ProfileRights x = Rig.row(20);
        for (int i = 0; i < 40; i++) {
            x.user(1 + i % 20);
        }
        x.mode(0, 2);
        Rig.guard(x, "AB");
        Rig.guard(x, Rig.TWENTY);
        for (int i = 3; i <= 60; i++) {
            x.profile(1, 1);
        }
        for (int i = 1; i <= 9; i++) {
            x.permit(1, i, 1 + i % 4);
        }
        x.permit(1, -1, 2);
        Rig.ask(x, Rig.TWENTY);
        return x;
    }

    /** Tells the state by calls that change it: an object is told once. */
    private static List<Long> told(ProfileRights x) {
        List<Long> all = new ArrayList<>();
        tellRows(x, all);
        tellAskedName(x, all);
        tellRights(x, all);
        tellUsers(x, all);
        tellProfiles(x, all);
        tellGroups(x, all);
        return all;
    }

    private static void tell(List<Long> all, Check.Call call) {
        all.add(Check.outcome(call));
    }

    private static void tellRows(ProfileRights x, List<Long> all) {
        for (int what = 0; what <= 5; what++) {
            all.add((long) x.count(what));
        }
        all.add((long) x.matched());
        for (int i = 0; i < 10; i++) {
            all.add((long) x.audit(i / 5, i % 5));
            all.add((long) x.who(1, i));
            all.add((long) x.who(2, i));
        }
        for (int i = 0; i < 9; i++) {
            all.add(Check.told(x.acts(1 + i / 3, 1 + i % 3)));
        }
    }

    private static void tellAskedName(ProfileRights x, List<Long> all) {
        all.add((long) x.may(2, 0, 1, 0));
        all.add((long) x.matched());
    }

    private static void tellRights(ProfileRights x, List<Long> all) {
        for (int user = 1; user <= 3; user++) {
            for (int level = 1; level <= 4; level++) {
                all.add((long) Rig.may(x, user, level, "AB"));
                all.add((long) x.matched());
                all.add((long) Rig.may(x, user, level, "AC"));
                all.add((long) x.matched());
            }
        }
        for (int hour = 0; hour < 24; hour++) {
            all.add((long) Rig.mayAt(x, 1, 4, "AB", 60L * hour));
        }
    }

    private static void tellUsers(ProfileRights x, List<Long> all) {
        for (int user = 1; user <= 3; user++) {
            all.add((long) x.pass(user, false));
            all.add((long) x.terminal(user, 0));
            all.add((long) x.revoke(user, true));
        }
    }

    private static void tellProfiles(ProfileRights x, List<Long> all) {
        for (int cls = 0; cls <= 7; cls++) {
            all.add((long) x.mode(cls, 0));
        }
        for (int p = 1; p <= 2; p++) {
            int profile = p;
            tell(all, () -> x.name(profile, 'Z'));
            all.add((long) x.universal(p, 0, 0));
            for (int number = 1; number <= 3; number++) {
                all.add((long) x.permit(p, number, NONE));
                all.add((long) x.permit(p, -number, NONE));
            }
        }
        tell(all, () -> x.profile(0, 1));
        tell(all, () -> x.user(1));
    }

    /** Whether one group lies below another is told by a move that is not done, before those that are. */
    private static void tellGroups(ProfileRights x, List<Long> all) {
        for (int[] pair : new int[][] {{1, 3}, {1, 2}, {2, 3}, {3, 1}, {2, 3}, {1, 3}}) {
            all.add((long) x.move(pair[0], pair[1]));
        }
        tell(all, () -> x.group(0));
    }

    private static int firstDifference(List<Long> one, List<Long> other) {
        for (int i = 0; i < one.size(); i++) {
            if (!one.get(i).equals(other.get(i))) {
                return i;
            }
        }
        return NONE;
    }

    private static void unchanged(String what, ProfileRights x, ProfileRights twin, long due, Act act) {
        Check.same(what, due, () -> act.answer(x));
        Check.same(what + ": the first change told", firstDifference(told(x), told(twin)), NONE);
    }

    private static void refused(String what, Act act) {
        unchanged(what, some(), some(), Check.ARGUMENT, act);
    }

    private static void answered(String what, long due, Act act) {
        unchanged(what, some(), some(), due, act);
    }

    private static void inFull(String what, long due, Act act) {
        unchanged(what, full(), full(), due, act);
    }

    private static void groupsAndUsers() {
        Check.promise(2, "what it throws for changes nothing");
        refused("below -1", x -> x.group(-1));
        refused("below itself", x -> x.group(4));
        Check.promise(3, "what it throws for changes nothing");
        refused("group 0", x -> x.move(0, 1));
        refused("group 4", x -> x.move(4, 1));
        refused("below -1", x -> x.move(2, -1));
        refused("below 4", x -> x.move(3, 4));
        Check.promise(4, "what it throws for changes nothing");
        refused("of none", x -> x.user(0));
        refused("of group 4", x -> x.user(4));
        Check.promise(5, "what it throws for changes nothing");
        refused("terminal -1", x -> x.terminal(1, -1));
        refused("terminal 100", x -> x.terminal(1, 100));
        refused("user 0", x -> x.terminal(0, 1));
        refused("user 4", x -> x.terminal(4, 1));
        Check.promise(6, "what it throws for changes nothing");
        refused("on, user 0", x -> x.revoke(0, true));
        refused("on, user 4", x -> x.revoke(4, true));
        refused("off, user 4", x -> x.revoke(4, false));
        Check.promise(7, "what it throws for changes nothing");
        refused("wrong, user 0", x -> x.pass(0, false));
        refused("wrong, user 4", x -> x.pass(4, false));
        refused("right, user 4", x -> x.pass(4, true));
        Check.promise(19, "what it throws for changes nothing");
        refused("user 4", x -> Check.told(x.acts(4, 1)));
        refused("for user 4", x -> Check.told(x.acts(1, 4)));
        Check.promise(20, "what it throws for changes nothing");
        refused("user 4", x -> x.surrogate(4, 1, true));
        refused("for user 4", x -> x.surrogate(1, 4, true));
        refused("for user 0", x -> x.surrogate(1, 0, false));
        refused("4 for itself", x -> x.surrogate(4, 4, true));
    }

    private static void classesAndProfiles() {
        Check.promise(8, "what it throws for changes nothing");
        refused("mode -1", x -> x.mode(0, -1));
        refused("mode 3", x -> x.mode(0, 3));
        refused("class -1", x -> x.mode(-1, 1));
        refused("class 8", x -> x.mode(8, 1));
        Check.promise(9, "what it throws for changes nothing");
        refused("class -1", x -> x.profile(-1, 1));
        refused("class 8", x -> x.profile(8, 1));
        refused("owner 0", x -> x.profile(0, 0));
        refused("owner 4", x -> x.profile(0, 4));
        Check.promise(10, "what it throws for changes nothing");
        refused("profile 0", x -> x.name(0, 'A'));
        refused("profile 3", x -> x.name(3, 'A'));
        refused("character 32", x -> x.name(2, 32));
        refused("character 127", x -> x.name(2, 127));
        Check.promise(11, "what it throws for changes nothing");
        refused("profile 0", x -> x.universal(0, 4, 7));
        refused("profile 3", x -> x.universal(3, 4, 7));
        refused("level -1", x -> x.universal(1, -1, 7));
        refused("level 5", x -> x.universal(1, 5, 7));
        refused("marks -1", x -> x.universal(1, 4, -1));
        refused("marks 8", x -> x.universal(1, 4, 8));
    }

    private static void lists() {
        Check.promise(12, "what it throws for changes nothing");
        refused("profile 0", x -> x.permit(0, 1, 1));
        refused("profile 3", x -> x.permit(3, 1, 1));
        refused("who 0", x -> x.permit(2, 0, 1));
        refused("user 4", x -> x.permit(2, 4, 1));
        refused("group 4", x -> x.permit(2, -4, 1));
        refused("the least who", x -> x.permit(2, Integer.MIN_VALUE, 1));
        refused("level -2", x -> x.permit(2, 1, -2));
        refused("level 5", x -> x.permit(2, 1, 5));
        refused("level 5 of a group", x -> x.permit(2, -1, 5));
        refused("level 5 of a new one", x -> x.permit(2, 2, 5));
        Check.promise(13, "what it throws for changes nothing");
        refused("profile 0", x -> x.condition(0, 1, 0, 0));
        refused("profile 3", x -> x.condition(3, 1, 0, 0));
        refused("who 0", x -> x.condition(2, 0, 0, 0));
        refused("user 4", x -> x.condition(2, 4, 0, 0));
        refused("group 4", x -> x.condition(2, -4, 0, 0));
        refused("terminal -1", x -> x.condition(2, 1, -1, 0));
        refused("terminal 100", x -> x.condition(2, 1, 100, 0));
        Check.promise(18, "what it throws for changes nothing");
        refused("profile 0", x -> x.who(0, 0));
        refused("profile 3", x -> x.who(3, 0));
    }

    private static void askingAndActing() {
        Check.promise(15, "what it throws for changes nothing");
        refused("user 0", x -> x.may(0, 0, 1, 0));
        refused("user 4", x -> x.may(4, 0, 1, 0));
        refused("class -1", x -> x.may(1, -1, 1, 0));
        refused("class 8", x -> x.may(1, 8, 1, 0));
        refused("level 0", x -> x.may(1, 0, 0, 0));
        refused("level 5", x -> x.may(1, 0, 5, 0));
        refused("time -1", x -> x.may(1, 0, 4, -1));
        refused("level 5 of a revoked user", x -> x.may(3, 0, 5, 0));
        refused("time -1 of a revoked user", x -> x.may(3, 0, 4, -1));
    }

    private static void fullTables() {
        Check.promise(2, "what it throws for changes nothing, there being 20");
        inFull("below none", Check.STATE, x -> x.group(0));
        inFull("below the last", Check.STATE, x -> x.group(20));
        inFull("below itself", Check.ARGUMENT, x -> x.group(21));
        Check.promise(4, "what it throws for changes nothing, there being 40");
        inFull("of group 1", Check.STATE, x -> x.user(1));
        inFull("of group 21", Check.ARGUMENT, x -> x.user(21));
        Check.promise(9, "what it throws for changes nothing, there being 60");
        inFull("of class 0", Check.STATE, x -> x.profile(0, 1));
        inFull("of class 8", Check.ARGUMENT, x -> x.profile(8, 1));
        inFull("of owner 41", Check.ARGUMENT, x -> x.profile(0, 41));
        Check.promise(10, "what it throws for changes nothing, there being 20");
        inFull("a character", Check.STATE, x -> x.name(2, 'U'));
        inFull("a generic one", Check.STATE, x -> x.name(2, '*'));
        inFull("no character", Check.ARGUMENT, x -> x.name(2, 127));
        Check.promise(12, "what it throws for changes nothing, there being 10");
        inFull("for a user", Check.STATE, x -> x.permit(1, 10, 4));
        inFull("for a group", Check.STATE, x -> x.permit(1, -2, 0));
        inFull("of no level", Check.ARGUMENT, x -> x.permit(1, 10, 5));
        inFull("for user 41", Check.ARGUMENT, x -> x.permit(1, 41, 1));
    }

    private static void unchangedByAnswer() {
        Check.promise(3, "0, changing nothing");
        answered("below itself", 0, x -> x.move(2, 2));
        answered("below the one below it", 0, x -> x.move(1, 2));
        answered("below one far below it", 0, x -> x.move(1, 3));
        inFull("below the last of all", 0, x -> x.move(1, 20));
        Check.promise(6, "0 when it was so: nothing changes");
        answered("on", 0, x -> x.revoke(3, true));
        answered("off", 0, x -> x.revoke(1, false));
        answered("off, with two tries left", 0, x -> x.revoke(2, false));
        Check.promise(7, "NONE, changing nothing");
        answered("right", NONE, x -> x.pass(3, true));
        answered("wrong", NONE, x -> x.pass(3, false));
        Check.promise(12, "NONE for none: a missing entry's going changes nothing");
        answered("a user's", NONE, x -> x.permit(2, 3, NONE));
        answered("a group's", NONE, x -> x.permit(2, -3, NONE));
        answered("of an empty list", NONE, x -> x.permit(1, 1, NONE));
        inFull("of a full list", NONE, x -> x.permit(1, 10, NONE));
        Check.promise(13, "0 when there is no such entry: nothing changes");
        answered("a user's", 0, x -> x.condition(2, 2, 9, 0));
        answered("a group's", 0, x -> x.condition(2, -2, 9, 0));
        answered("of an empty list", 0, x -> x.condition(1, 1, 9, 0));
        Check.promise(14, "the 21st is lost: nothing changes");
        inFull("the 21st", 20, x -> x.ask('Z'));
        Check.promise(20, "0 when it was so, or both are one: nothing changes");
        answered("on", 0, x -> x.surrogate(1, 2, true));
        answered("off", 0, x -> x.surrogate(2, 1, false));
        answered("one for itself, on", 0, x -> x.surrogate(1, 1, true));
        answered("one for itself, off", 0, x -> x.surrogate(1, 1, false));
    }

    private static void readingChangesNothing() {
        Check.promise(16, "matched() changes nothing");
        answered("by profile 2", 2, ProfileRights::matched);
        Check.promise(17, "audit() changes nothing");
        answered("the row there is", 2, x -> x.audit(0, 0));
        answered("no row", NONE, x -> x.audit(1, 0));
        Check.promise(18, "who() changes nothing");
        answered("the last entry", -1, x -> x.who(2, 1));
        answered("no entry", 0, x -> x.who(2, 2));
        Check.promise(19, "acts() changes nothing");
        answered("one for another", 1, x -> Check.told(x.acts(1, 2)));
        answered("not so", 0, x -> Check.told(x.acts(2, 1)));
        Check.promise(21, "count() changes nothing");
        for (int what = 0; what <= 6; what++) {
            int number = what;
            answered("what " + what, new int[] {3, 3, 2, 1, 1, 2, NONE}[what], x -> x.count(number));
        }
    }
}
