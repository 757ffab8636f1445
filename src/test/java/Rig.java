/** Objects in the states that tests begin with, and what takes several calls. Names and levels are of class 0. */
final class Rig {
    static final int NONE = ProfileRights.NONE;
    static final int ALL_HOURS = 0xFFFFFF;
    static final String TWENTY = "ABCDEFGHIJKLMNOPQRST";

    private Rig() {
    }

    /** All users are of group 1, and no group is below another. */
    static ProfileRights of(int groups, int users) {
        ProfileRights x = new ProfileRights();
        for (int i = 0; i < groups; i++) {
            x.group(0);
        }
        for (int i = 0; i < users; i++) {
            x.user(1);
        }
        return x;
    }

    /** Groups each below the one before. */
    static ProfileRights row(int groups) {
        ProfileRights x = new ProfileRights();
        for (int i = 0; i < groups; i++) {
            x.group(i);
        }
        return x;
    }

    /** Group 1 with users 1 and 2; class 0 is strict. */
    static ProfileRights strict() {
        ProfileRights x = of(1, 2);
        x.mode(0, 2);
        return x;
    }

    /** As strict(), with profile 1 of class 0 and of that name. */
    static ProfileRights guarded(String name) {
        ProfileRights x = strict();
        guard(x, name);
        return x;
    }

    static int guard(ProfileRights x, String name) {
        return guard(x, 0, name);
    }

    static int guard(ProfileRights x, int cls, String name) {
        int p = x.profile(cls, 1);
        for (char c : name.toCharArray()) {
            x.name(p, c);
        }
        return p;
    }

    static void ask(ProfileRights x, String name) {
        for (char c : name.toCharArray()) {
            x.ask(c);
        }
    }

    static int may(ProfileRights x, int user, int level, String name) {
        return mayAt(x, user, level, name, 0);
    }

    static int mayAt(ProfileRights x, int user, int level, String name, long t) {
        ask(x, name);
        return x.may(user, 0, level, t);
    }

    /** The profile by which a name is answered for user 1. */
    static int matched(ProfileRights x, String name) {
        may(x, 1, 4, name);
        return x.matched();
    }

    /** The highest level at which a user may act on the name A. */
    static int levelOnA(ProfileRights x, int user, long t) {
        for (int level = 4; level >= 1; level--) {
            if (mayAt(x, user, level, "A", t) == 1) {
                return level;
            }
        }
        return 0;
    }
}
