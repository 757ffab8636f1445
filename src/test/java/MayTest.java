/** Promises 15 and 16 with the terms of open entries, levels and the order of may, sentence by sentence. */
public final class MayTest {
    private static final int NONE = ProfileRights.NONE;

    private MayTest() {
    }

    public static void main(String[] args) {
        openEntries();
        levels();
        order();
        promise15();
        promise16();
        Check.end("MayTest");
    }

    private static void openEntries() {
        openByTerminal();
        openByHour();
        hourOfLongTimes();
        openByBoth();
    }

    private static void openByTerminal() {
        Check.term("An entry is OPEN for a user at a time if its terminal is 0 or the user's");
        ProfileRights x = Rig.guarded("A");
        x.permit(1, 1, 4);
        x.permit(1, 2, 4);
        x.terminal(1, 7);
        x.condition(1, 1, 7, -1);
        x.condition(1, 2, 7, -1);
        Check.same("the user's", Rig.levelOnA(x, 1, 0), 4);
        Check.same("another user's", Rig.levelOnA(x, 2, 0), 0);
        x.terminal(1, 8);
        Check.same("the user's before", Rig.levelOnA(x, 1, 0), 0);
        x.terminal(1, 0);
        Check.same("a user at 0 is not at any", Rig.levelOnA(x, 1, 0), 0);
        x.condition(1, 1, 0, -1);
        Check.same("0, user at 0", Rig.levelOnA(x, 1, 0), 4);
        x.terminal(1, 99);
        Check.same("0, user at 99", Rig.levelOnA(x, 1, 0), 4);
    }

    private static void openByHour() {
        Check.term("the bit of the hour (time / 60 modulo 24) is set");
        ProfileRights x = Rig.guarded("");
        x.permit(1, 1, 4);
        for (int hour = 0; hour < 24; hour++) {
            x.condition(1, 1, 0, 1 << hour);
            long start = 60L * hour;
            Check.same("first minute of hour " + hour, x.may(1, 0, 4, start), 1);
            Check.same("last minute of hour " + hour, x.may(1, 0, 4, start + 59), 1);
            Check.same("the next day's hour " + hour, x.may(1, 0, 4, start + 1440), 1);
            Check.same("minute behind hour " + hour, x.may(1, 0, 4, start + 60), 0);
            Check.same("minute ahead of hour " + hour, x.may(1, 0, 4, start + 1439), 0);
        }
    }

    private static void hourOfLongTimes() {
        Check.term("at a time (in minutes)");
        long[] times = {0, 59, 60, 1439, 1440, Integer.MAX_VALUE, Integer.MAX_VALUE + 1L, 1L << 32,
            60L * Integer.MAX_VALUE + 59, 60L * (Integer.MAX_VALUE + 1L), 60L << 32, Long.MAX_VALUE - 60,
            Long.MAX_VALUE};
        int[] hours = {0, 0, 1, 23, 0, 2, 2, 4, 7, 8, 16, 17, 18};
        for (int i = 0; i < times.length; i++) {
            ProfileRights x = Rig.guarded("");
            x.permit(1, 1, 4);
            x.condition(1, 1, 0, 1 << hours[i]);
            Check.same("open at " + times[i], x.may(1, 0, 4, times[i]), 1);
            x.condition(1, 1, 0, ~(1 << hours[i]));
            Check.same("not open at " + times[i], x.may(1, 0, 4, times[i]), 0);
        }
    }

    private static void openByBoth() {
        Check.term("is 0 or the user's, and the bit of the hour is set");
        ProfileRights x = Rig.guarded("A");
        x.permit(1, 1, 4);
        x.condition(1, 1, 7, 2);
        Check.same("neither", Rig.levelOnA(x, 1, 0), 0);
        Check.same("the hour alone", Rig.levelOnA(x, 1, 60), 0);
        x.terminal(1, 7);
        Check.same("the terminal alone", Rig.levelOnA(x, 1, 0), 0);
        Check.same("both", Rig.levelOnA(x, 1, 60), 4);
        x.condition(1, 1, 0, 2);
        Check.same("any terminal, not the hour", Rig.levelOnA(x, 1, 0), 0);
    }

    private static void levels() {
        ownEntry();
        ownEntryNotOpen();
        firstGroupWithAnOpenOne();
        universalLevel();
    }

    /** User 1 is of group 3, that is below group 2, below group 1. User 2 is of group 1. */
    private static ProfileRights tree() {
        ProfileRights x = Rig.row(3);
        x.user(3);
        x.user(1);
        x.mode(0, 2);
        Rig.guard(x, "A");
        return x;
    }

    private static void ownEntry() {
        Check.term("A user's level by a profile: that of the user's own entry, if it is open");
        ProfileRights x = tree();
        x.universal(1, 4, 0);
        x.permit(1, -3, 4);
        for (int level = 0; level <= 4; level++) {
            x.permit(1, 1, level);
            Check.same("own of level " + level, Rig.levelOnA(x, 1, 0), level);
        }
        x.permit(1, -1, 3);
        Check.same("another user's own entry is none", Rig.levelOnA(x, 2, 0), 3);
    }

    private static void ownEntryNotOpen() {
        Check.term("else of the first group (the user's, then those above)");
        ProfileRights x = tree();
        x.permit(1, -1, 1);
        Check.same("the group far above", Rig.levelOnA(x, 1, 0), 1);
        x.permit(1, -2, 4);
        Check.same("the group above", Rig.levelOnA(x, 1, 0), 4);
        x.permit(1, -3, 2);
        Check.same("the user's group", Rig.levelOnA(x, 1, 0), 2);
        Check.same("not a group below the user's", Rig.levelOnA(x, 2, 0), 1);
        x.permit(1, 1, 3);
        x.condition(1, 1, 0, ~1);
        Check.same("own not open", Rig.levelOnA(x, 1, 0), 2);
        Check.same("own open at another hour", Rig.levelOnA(x, 1, 60), 3);
        x.permit(1, -3, 0);
        Check.same("the user's group, of level 0", Rig.levelOnA(x, 1, 0), 0);
    }

    private static void firstGroupWithAnOpenOne() {
        Check.term("that has an open one");
        ProfileRights x = tree();
        x.permit(1, -1, 3);
        x.permit(1, -2, 2);
        x.permit(1, -3, 1);
        x.condition(1, -3, 9, -1);
        Check.same("the user's group not open", Rig.levelOnA(x, 1, 0), 2);
        x.terminal(1, 9);
        Check.same("open at the user's terminal", Rig.levelOnA(x, 1, 0), 1);
        x.terminal(1, 0);
        x.condition(1, -2, 0, 0);
        Check.same("nor the one above", Rig.levelOnA(x, 1, 0), 3);
        x.move(2, 0);
        Check.same("the third is not above any more", Rig.levelOnA(x, 1, 0), 0);
    }

    private static void universalLevel() {
        Check.term("else the universal one");
        ProfileRights x = tree();
        for (int level = 0; level <= 4; level++) {
            x.universal(1, level, 0);
            Check.same("an empty list", Rig.levelOnA(x, 1, 0), level);
        }
        for (int who : new int[] {1, -1, -2, -3}) {
            x.permit(1, who, 1);
            x.condition(1, who, 5, 1);
        }
        Check.same("entries that are not open", Rig.levelOnA(x, 1, 0), 4);
        Check.same("a user without an entry", Rig.levelOnA(x, 2, 0), 4);
        x.terminal(1, 5);
        Check.same("entries that are open", Rig.levelOnA(x, 1, 0), 1);
        Check.same("at another hour not", Rig.levelOnA(x, 1, 60), 4);
    }

    private static void order() {
        revokedFirst();
        offThen();
        globalThen();
        mostSpecialGlobal();
        noProfile();
        levelIsEnough();
        warning();
    }

    private static void answers(String what, ProfileRights x, int got, int answer, int profile) {
        Check.same(what, got, answer);
        Check.same(what + ", by", x.matched(), profile);
    }

    private static void revokedFirst() {
        Check.term("in this order: revoked: no");
        ProfileRights x = Rig.guarded("A");
        x.universal(1, 4, 7);
        x.permit(1, 1, 4);
        x.revoke(1, true);
        for (int mode = 0; mode <= 2; mode++) {
            x.mode(0, mode);
            answers("fitting, mode " + mode, x, Rig.may(x, 1, 1, "A"), 0, 0);
            answers("not fitting, mode " + mode, x, Rig.may(x, 1, 1, "B"), 0, 0);
        }
        answers("another user", x, Rig.may(x, 2, 1, "A"), 1, 1);
    }

    private static void offThen() {
        Check.term("The class is off: yes, by no profile");
        ProfileRights x = Rig.guarded("A");
        x.permit(1, 1, 0);
        x.mode(0, 0);
        answers("by an entry of level 0", x, Rig.may(x, 1, 4, "A"), 1, 0);
        x.universal(1, 4, 7);
        answers("before a global one", x, Rig.may(x, 1, 4, "A"), 1, 0);
        Check.same("rows of the audit", x.count(3), 0);
        x.mode(0, 1);
        x.universal(1, 0, 0);
        answers("on again", x, Rig.may(x, 1, 4, "A"), 0, 1);
        for (int cls = 1; cls <= 7; cls++) {
            answers("class " + cls, x, x.may(1, cls, 4, 0), 1, 0);
        }
    }

    private static void globalThen() {
        Check.term("A global profile that fits has a universal level that is enough: yes");
        ProfileRights x = Rig.guarded("*");
        Rig.guard(x, "AB");
        for (int mode = 1; mode <= 2; mode++) {
            x.mode(0, mode);
            x.universal(1, 2, 6);
            x.permit(1, 1, 0);
            answers("below its level", x, Rig.may(x, 1, 1, "AB"), 1, 1);
            answers("its level, before its list and the exact one", x, Rig.may(x, 1, 2, "AB"), 1, 1);
            Check.same("without an audit", x.count(3), mode - 1);
            answers("above its level", x, Rig.may(x, 1, 3, "AB"), 0, 2);
        }
        x.universal(1, 4, 3);
        answers("the other marks are not global", x, Rig.may(x, 1, 1, "AB"), 0, 2);
        x.universal(1, 4, 4);
        x.name(1, 'C');
        answers("it does not fit any more", x, Rig.may(x, 1, 1, "AB"), 0, 2);
        Rig.guard(x, 1, "AB");
        x.universal(3, 4, 4);
        answers("one of another class", x, Rig.may(x, 1, 1, "AB"), 0, 2);
    }

    private static void mostSpecialGlobal() {
        Check.term("by the most special one of those, without an audit");
        ProfileRights x = Rig.guarded("*");
        Rig.guard(x, "A*");
        Rig.guard(x, "AB");
        Rig.guard(x, "A*");
        x.universal(1, 4, 6);
        x.universal(2, 3, 6);
        x.universal(3, 4, 3);
        x.universal(4, 3, 6);
        answers("two of one rank, one before them not global", x, Rig.may(x, 1, 3, "AB"), 1, 2);
        answers("the level of the wide one alone is enough", x, Rig.may(x, 1, 4, "AB"), 1, 1);
        x.universal(3, 2, 4);
        answers("the exact one", x, Rig.may(x, 1, 2, "AB"), 1, 3);
        Check.same("rows of the audit", x.count(3), 0);
        x.universal(1, 0, 6);
        x.permit(1, 1, 2);
        answers("not enough by its universal level: its list", x, Rig.may(x, 1, 2, "C"), 1, 1);
        Check.same("with an audit then", x.count(3), 1);
    }

    private static void noProfile() {
        Check.term("No profile fits: yes in mode 1, no in mode 2, by none");
        ProfileRights x = Rig.strict();
        answers("no profile, mode 2", x, Rig.may(x, 1, 1, "A"), 0, 0);
        x.mode(0, 1);
        answers("no profile, mode 1", x, Rig.may(x, 1, 4, "A"), 1, 0);
        Rig.guard(x, "B");
        x.universal(1, 4, 7);
        answers("none that fits, mode 1", x, Rig.may(x, 1, 4, "A"), 1, 0);
        x.mode(0, 2);
        answers("none that fits, mode 2", x, Rig.may(x, 1, 1, "A"), 0, 0);
        answers("the empty name, mode 2", x, Rig.may(x, 1, 1, ""), 0, 0);
    }

    private static void levelIsEnough() {
        Check.term("By the most special one: yes, if the user's level is enough");
        ProfileRights x = Rig.guarded("A");
        Rig.guard(x, "*");
        x.universal(2, 4, 0);
        for (int mode = 1; mode <= 2; mode++) {
            x.mode(0, mode);
            for (int has = 0; has <= 4; has++) {
                x.permit(1, 1, has);
                for (int level = 1; level <= 4; level++) {
                    int due = has >= level ? 1 : 0;
                    answers(has + " for " + level, x, Rig.may(x, 1, level, "A"), due, 1);
                }
            }
        }
    }

    private static void warning() {
        Check.term("else, with WARNING, yes with a warning; else no");
        for (int marks = 0; marks <= 7; marks++) {
            ProfileRights x = Rig.guarded("A");
            x.universal(1, 2, marks);
            int due = marks % 2 == 1 ? 2 : 0;
            answers("level enough, marks " + marks, x, Rig.may(x, 1, 2, "A"), 1, 1);
            answers("level not enough, marks " + marks, x, Rig.may(x, 1, 3, "A"), due, 1);
            x.mode(0, 1);
            answers("in mode 1, marks " + marks, x, Rig.may(x, 1, 3, "A"), due, 1);
            answers("no profile fits, marks " + marks, x, Rig.may(x, 1, 3, "B"), 1, 0);
        }
    }

    private static void promise15() {
        nameIsEmptyThen();
        mayRefuses();
        nameStays();
    }

    private static void emptyBehind(String what, ProfileRights x, int answer, String name) {
        Check.same(what, Rig.may(x, 1, 2, name), answer);
        Check.same(what + ", the next character", x.ask('A'), 1);
        x.ask(0);
    }

    private static void nameIsEmptyThen() {
        Check.promise(15, "on the name that is asked (it is empty then)");
        ProfileRights x = Rig.strict();
        emptyBehind("no by none", x, 0, "AB");
        x.mode(0, 1);
        emptyBehind("yes by none", x, 1, "AB");
        Rig.guard(x, "AB");
        emptyBehind("no", x, 0, "AB");
        x.universal(1, 0, 1);
        emptyBehind("warning", x, 2, "AB");
        x.universal(1, 2, 0);
        emptyBehind("yes", x, 1, "AB");
        x.universal(1, 2, 2);
        emptyBehind("audited yes", x, 1, "AB");
        x.universal(1, 2, 4);
        emptyBehind("yes by a global one", x, 1, "AB");
        emptyBehind("a full name", x, 1, Rig.TWENTY);
        emptyBehind("the empty name", x, 1, "");
        x.mode(0, 0);
        emptyBehind("off", x, 1, "AB");
        x.revoke(1, true);
        emptyBehind("revoked", x, 0, "AB");
    }

    private static void mayRefuses() {
        Check.promise(15, "IllegalArgumentException when user, class, level (1 .. 4) or time (below 0) is not so");
        ProfileRights none = Rig.of(1, 0);
        Check.refused("user 1 where there is none", () -> none.may(1, 0, 1, 0));
        ProfileRights x = Rig.of(1, 2);
        Check.same("the last user, class and level", 1, () -> x.may(2, 7, 4, 0));
        Check.same("the first user, class and level", 1, () -> x.may(1, 0, 1, 0));
        Check.refusedOutside("user", 1, 2, u -> x.may(u, 0, 1, 0));
        Check.refusedOutside("class", 0, 7, cls -> x.may(1, cls, 1, 0));
        Check.refusedOutside("level", 1, 4, level -> x.may(1, 0, level, 0));
        for (long t : new long[] {-1, -60, Integer.MIN_VALUE, -1L << 32, Long.MIN_VALUE, Long.MIN_VALUE + 1}) {
            Check.refused("time " + t, () -> x.may(1, 0, 1, t));
        }
        x.revoke(1, true);
        Check.refused("level 0 of a revoked one", () -> x.may(1, 0, 0, 0));
        Check.refused("level 5 of a revoked one", () -> x.may(1, 0, 5, 0));
        Check.refused("time -1 of a revoked one", () -> x.may(1, 0, 1, -1));
    }

    private static void nameStays() {
        Check.promise(15, "the name stays");
        ProfileRights x = Rig.guarded("ABC");
        Rig.matched(x, "ABC");
        Rig.ask(x, "AB");
        Check.refused("user 3", () -> x.may(3, 0, 1, 0));
        Check.refused("class 8", () -> x.may(1, 8, 1, 0));
        Check.refused("level 0", () -> x.may(1, 0, 0, 0));
        Check.refused("time -1", () -> x.may(1, 0, 1, -1));
        Check.same("its next character", x.ask('C'), 3);
        Check.refused("level 5", () -> x.may(1, 0, 5, 0));
        Check.same("rows of the audit", x.count(3), 1);
        x.may(1, 0, 1, 0);
        Check.same("by the whole name", x.matched(), 1);
    }

    private static void promise16() {
        matchedOfTheLatest();
        matchedNone();
    }

    private static void matchedOfTheLatest() {
        Check.promise(16, "The profile by which the latest may() was answered");
        ProfileRights x = Rig.strict();
        for (int i = 1; i <= 59; i++) {
            x.profile(1, 1);
        }
        int last = Rig.guard(x, "A");
        Check.same("no, by the last profile there can be", Rig.matched(x, "A"), last);
        Check.same("that is", last, 60);
        x.universal(60, 0, 1);
        Check.same("warning", Rig.matched(x, "A"), 60);
        x.universal(60, 4, 0);
        Check.same("yes", Rig.matched(x, "A"), 60);
        x.universal(60, 4, 4);
        Check.same("yes by a global one", Rig.matched(x, "A"), 60);
        Check.same("told again", x.matched(), 60);
        x.ask('B');
        x.mode(0, 0);
        x.permit(60, 1, 0);
        Check.refused("a refused may", () -> x.may(1, 0, 5, 0));
        Check.same("other calls and a refused may leave it", x.matched(), 60);
    }

    private static void matchedNone() {
        Check.promise(16, "0 for none");
        Check.same("at first", new ProfileRights().matched(), 0);
        ProfileRights x = Rig.guarded("A");
        Check.refused("a refused may", () -> x.may(1, 0, 0, 0));
        Check.same("behind a refused one", x.matched(), 0);
        Check.same("by a profile", Rig.matched(x, "A"), 1);
        Check.same("no by none", Rig.matched(x, "B"), 0);
        Rig.matched(x, "A");
        x.mode(0, 1);
        Check.same("yes by none", Rig.matched(x, "B"), 0);
        Rig.matched(x, "A");
        x.mode(0, 0);
        Check.same("off", Rig.matched(x, "A"), 0);
        x.mode(0, 2);
        Rig.matched(x, "A");
        x.revoke(1, true);
        Check.same("revoked", Rig.matched(x, "A"), 0);
    }
}
