/** Promises 1 to 7, 19 and 20, sentence by sentence. */
public final class GroupsAndUsersTest {
    private static final int NONE = ProfileRights.NONE;

    private GroupsAndUsersTest() {
    }

    public static void main(String[] args) {
        promise1();
        promise2();
        promise3();
        promise4();
        promise5();
        promise6();
        promise7();
        promise19();
        promise20();
        Check.end("GroupsAndUsersTest");
    }

    private static void promise1() {
        newObjectHasNothing();
        newObjectAsksNoName();
    }

    private static void newObjectHasNothing() {
        Check.promise(1, "No groups, users, profiles");
        ProfileRights x = new ProfileRights();
        for (int what = 0; what <= 5; what++) {
            Check.same("count " + what, x.count(what), 0);
        }
        Check.same("matched", x.matched(), 0);
        Check.same("audit", x.audit(0, 0), NONE);
        Check.refused("moving group 1", () -> x.move(1, 0));
        Check.refused("a user of group 1", () -> x.user(1));
        Check.refused("acts", () -> Check.told(x.acts(1, 1)));
        Check.refused("an owner", () -> x.profile(0, 1));
        Check.refused("a profile's list", () -> x.who(1, 0));
        x.group(0);
        Check.same("another object's groups", new ProfileRights().count(0), 0);
    }

    private static void newObjectAsksNoName() {
        Check.promise(1, "no name is asked");
        Check.same("the first character asked", new ProfileRights().ask('A'), 1);
        ProfileRights x = Rig.guarded("");
        x.may(1, 0, 1, 0);
        Check.same("a profile with an empty name fits", x.matched(), 1);
    }

    private static void promise2() {
        groupsAreNumbered();
        groupBelowAnotherOrNone();
        groupBelowMissingOne();
        groupsAreFull();
    }

    private static void groupsAreNumbered() {
        Check.term("GROUPS are numbered from 1 on (at most 20)");
        ProfileRights x = new ProfileRights();
        for (int i = 1; i <= 20; i++) {
            Check.same("group " + i, x.group(0), i);
            Check.same("groups", x.count(0), i);
        }
    }

    private static void groupBelowAnotherOrNone() {
        Check.promise(2, "A new group below another one (0: none)");
        ProfileRights x = new ProfileRights();
        x.group(0);
        x.group(1);
        x.group(0);
        x.user(2);
        x.user(3);
        x.mode(0, 2);
        Rig.guard(x, "A");
        x.permit(1, -1, 2);
        Check.same("level below group 1", Rig.levelOnA(x, 1, 0), 2);
        Check.same("level below none", Rig.levelOnA(x, 2, 0), 0);
    }

    private static void groupBelowMissingOne() {
        Check.promise(2, "IllegalArgumentException when there is none such");
        ProfileRights none = new ProfileRights();
        Check.refused("below itself as the first one", () -> none.group(1));
        Check.refusedOutside("below", 0, 0, none::group);
        ProfileRights x = Rig.of(2, 0);
        Check.same("below the last one", 3, () -> x.group(2));
        Check.refused("below itself", () -> x.group(4));
        Check.refusedOutside("below", 0, 3, x::group);
        Check.same("groups", x.count(0), 3);
    }

    private static void groupsAreFull() {
        Check.promise(2, "IllegalStateException when there are 20");
        ProfileRights x = Rig.of(19, 0);
        Check.same("the 20th", 20, () -> x.group(19));
        Check.full("the 21st", () -> x.group(0));
        Check.full("the 21st below the first", () -> x.group(1));
        Check.full("the 21st below the last", () -> x.group(20));
        Check.refused("the 21st below itself", () -> x.group(21));
        Check.refused("the 21st below -1", () -> x.group(-1));
        Check.same("groups", x.count(0), 20);
        Check.same("a group of a full table moves", 1, () -> x.move(20, 0));
    }

    private static void promise3() {
        groupMoves();
        groupMovesWithThoseBelow();
        groupStaysForItself();
        groupStaysForOneBelow();
        missingGroupMoves();
    }

    private static void groupMoves() {
        Check.promise(3, "A group comes below another one (0: none): 1");
        ProfileRights x = Rig.of(2, 0);
        x.user(2);
        x.mode(0, 2);
        Rig.guard(x, "A");
        x.permit(1, -1, 4);
        Check.same("level at first", Rig.levelOnA(x, 1, 0), 0);
        Check.same("below group 1", 1, () -> x.move(2, 1));
        Check.same("level below group 1", Rig.levelOnA(x, 1, 0), 4);
        Check.same("where it is", 1, () -> x.move(2, 1));
        Check.same("below none", 1, () -> x.move(2, 0));
        Check.same("level below none", Rig.levelOnA(x, 1, 0), 0);
        Check.same("below none, where it is", 1, () -> x.move(2, 0));
        Check.same("the other way round", 1, () -> x.move(1, 2));
    }

    private static void groupMovesWithThoseBelow() {
        Check.term("each below another one or none");
        ProfileRights x = Rig.of(4, 0);
        x.move(2, 1);
        x.move(3, 2);
        x.user(3);
        x.mode(0, 2);
        Rig.guard(x, "A");
        x.permit(1, -1, 1);
        x.permit(1, -4, 4);
        Check.same("level below group 1", Rig.levelOnA(x, 1, 0), 1);
        Check.same("the group between moves", 1, () -> x.move(2, 4));
        Check.same("level below group 4", Rig.levelOnA(x, 1, 0), 4);
        Check.same("group 1 has none below any more", 1, () -> x.move(1, 3));
        Check.same("group 4 has group 1 far below now", 0, () -> x.move(4, 1));
        Check.same("the nearest group stays before it", Rig.levelOnA(x, 1, 0), 4);
    }

    private static void groupStaysForItself() {
        Check.promise(3, "0, changing nothing, when that is itself");
        ProfileRights x = Rig.of(20, 0);
        for (int i = 1; i <= 20; i++) {
            Check.same("group " + i + " below itself", x.move(i, i), 0);
        }
        ProfileRights y = Rig.of(2, 0);
        y.move(2, 1);
        y.user(2);
        y.mode(0, 2);
        Rig.guard(y, "A");
        y.permit(1, -1, 4);
        Check.same("below itself", y.move(2, 2), 0);
        Check.same("still below group 1", Rig.levelOnA(y, 1, 0), 4);
        Check.same("none below itself", y.move(1, 1), 0);
        Check.same("group 1 has it below as before", y.move(1, 2), 0);
    }

    private static void groupStaysForOneBelow() {
        Check.promise(3, "or lies below it");
        ProfileRights x = Rig.row(20);
        for (int group = 1; group <= 20; group++) {
            for (int above = group + 1; above <= 20; above++) {
                Check.same(group + " below " + above, x.move(group, above), 0);
            }
        }
        for (int group = 1; group <= 20; group++) {
            Check.same(group + " where it is", x.move(group, group - 1), 1);
        }
        Check.same("the last below the first", x.move(20, 1), 1);
        Check.same("it lies below the first still", x.move(1, 20), 0);
        Check.same("it does not lie below the second any more", x.move(2, 20), 1);
        Check.same("the others of the row come along", x.move(20, 19), 0);
        Check.same("the one above the row stays", x.move(1, 19), 0);
        longestRowCounts();
    }

    private static void longestRowCounts() {
        ProfileRights x = Rig.row(20);
        x.user(20);
        x.mode(0, 2);
        Rig.guard(x, "A");
        x.permit(1, -1, 3);
        Check.same("level by the group 19 above", Rig.levelOnA(x, 1, 0), 3);
        x.move(1, 20);
        Check.same("behind a refused ring too", Rig.levelOnA(x, 1, 0), 3);
        x.permit(1, -1, NONE);
        Check.same("the row has an end", Rig.levelOnA(x, 1, 0), 0);
    }

    private static void missingGroupMoves() {
        Check.promise(3, "IllegalArgumentException when there is none such");
        ProfileRights x = Rig.of(3, 0);
        Check.same("the last one below the first", 1, () -> x.move(3, 1));
        Check.same("the first one is below none", 1, () -> x.move(1, 0));
        Check.refusedOutside("group", 1, 3, g -> x.move(g, 0));
        Check.refusedOutside("group", 1, 3, g -> x.move(g, 2));
        Check.refusedOutside("below", 0, 3, above -> x.move(1, above));
        Check.refusedOutside("a missing one below itself", 1, 3, g -> x.move(g, g));
    }

    private static void promise4() {
        usersAreNumbered();
        userIsOfItsGroup();
        userOfMissingGroup();
        usersAreFull();
    }

    private static void usersAreNumbered() {
        Check.term("USERS are numbered from 1 on (at most 40)");
        ProfileRights x = Rig.of(2, 0);
        for (int i = 1; i <= 40; i++) {
            Check.same("user " + i, x.user(1 + i % 2), i);
            Check.same("users", x.count(1), i);
        }
    }

    private static void userIsOfItsGroup() {
        Check.promise(4, "A new user of a group");
        ProfileRights x = Rig.of(20, 0);
        x.user(1);
        x.user(20);
        x.mode(0, 2);
        Rig.guard(x, "A");
        x.permit(1, -20, 4);
        Check.same("level in group 1", Rig.levelOnA(x, 1, 0), 0);
        Check.same("level in group 20", Rig.levelOnA(x, 2, 0), 4);
        Check.same("revoked ones", x.count(4), 0);
    }

    private static void userOfMissingGroup() {
        Check.promise(4, "IllegalArgumentException when there is none such");
        ProfileRights none = new ProfileRights();
        Check.refused("the group that the next one would be", () -> none.user(1));
        ProfileRights x = Rig.of(3, 0);
        Check.refusedOutside("of group", 1, 3, x::user);
        Check.same("users", x.count(1), 0);
        Check.same("of the last group", 1, () -> x.user(3));
    }

    private static void usersAreFull() {
        Check.promise(4, "IllegalStateException when there are 40");
        ProfileRights x = Rig.of(2, 39);
        Check.same("the 40th", 40, () -> x.user(2));
        Check.full("the 41st", () -> x.user(1));
        Check.full("the 41st of another group", () -> x.user(2));
        Check.refused("the 41st of no group", () -> x.user(0));
        Check.refused("the 41st of a missing group", () -> x.user(3));
        Check.same("users", x.count(1), 40);
        Check.refused("the 41st is none", () -> x.pass(41, true));
        Check.same("the 40th is one", 3, () -> x.pass(40, true));
    }

    private static void promise5() {
        terminalAtFirst();
        terminalBefore();
        missingTerminal();
    }

    private static void terminalAtFirst() {
        Check.term("at a TERMINAL 0 .. 99 (0 at first)");
        ProfileRights x = Rig.of(1, 40);
        for (int user = 1; user <= 40; user++) {
            Check.same("terminal of user " + user, x.terminal(user, user), 0);
        }
        for (int user = 1; user <= 40; user++) {
            Check.same("own terminal of user " + user, x.terminal(user, 0), user);
        }
    }

    private static void terminalBefore() {
        Check.promise(5, "A user comes to a terminal 0 .. 99: where it was");
        ProfileRights x = Rig.of(1, 1);
        for (int terminal = 1; terminal <= 99; terminal++) {
            Check.same("to terminal " + terminal, x.terminal(1, terminal), terminal - 1);
        }
        Check.same("to the same one", x.terminal(1, 99), 99);
        Check.same("from the last to the first", x.terminal(1, 0), 99);
        Check.same("from the first", x.terminal(1, 0), 0);
        x.revoke(1, true);
        Check.same("when revoked too", x.terminal(1, 1), 0);
    }

    private static void missingTerminal() {
        Check.promise(5, "IllegalArgumentException when one is not so");
        ProfileRights x = Rig.of(1, 2);
        x.terminal(1, 99);
        x.terminal(2, 98);
        Check.refusedOutside("terminal", 0, 99, t -> x.terminal(1, t));
        Check.refusedOutside("user", 1, 2, u -> x.terminal(u, 5));
        Check.refused("both", () -> x.terminal(3, 100));
        Check.same("where user 1 was", x.terminal(1, 0), 99);
        Check.same("where user 2 was", x.terminal(2, 0), 98);
    }

    private static void promise6() {
        userIsRevoked();
        userIsRevokedNoMore();
        userWasRevoked();
        missingUserIsRevoked();
    }

    private static void userIsRevoked() {
        Check.promise(6, "A user is revoked, or not any more: 1");
        ProfileRights x = Rig.of(1, 40);
        Check.same("the last user", x.revoke(40, true), 1);
        Check.same("revoked ones", x.count(4), 1);
        Check.same("may of it", x.may(40, 0, 1, 0), 0);
        Check.same("may of another", x.may(39, 0, 1, 0), 1);
        Check.same("not any more", x.revoke(40, false), 1);
        Check.same("none revoked", x.count(4), 0);
        Check.same("may of it then", x.may(40, 0, 1, 0), 1);
    }

    private static void userIsRevokedNoMore() {
        Check.promise(6, "(then there are 3 tries)");
        ProfileRights x = Rig.of(1, 2);
        for (int told = 0; told <= 3; told++) {
            for (int i = 0; i < told; i++) {
                x.pass(1, false);
            }
            x.revoke(1, true);
            Check.same("not any more, " + told + " wrong ones told", x.revoke(1, false), 1);
            Check.same("a wrong one then", x.pass(1, false), 2);
            x.pass(1, true);
        }
        x.pass(2, false);
        x.revoke(1, true);
        x.revoke(1, false);
        Check.same("another user's tries stay", x.pass(2, false), 1);
    }

    private static void userWasRevoked() {
        Check.promise(6, "0 when it was so");
        ProfileRights x = Rig.of(1, 1);
        Check.same("a new user is not revoked", x.revoke(1, false), 0);
        x.revoke(1, true);
        Check.same("revoked twice", x.revoke(1, true), 0);
        Check.same("revoked still", x.count(4), 1);
        x.revoke(1, false);
        Check.same("not any more, twice", x.revoke(1, false), 0);
        Check.same("not revoked still", x.count(4), 0);
        x.pass(1, false);
        x.revoke(1, false);
        Check.same("tries stay where it was so", x.pass(1, false), 1);
        x.pass(1, false);
        Check.same("revoked by tries, then by the call", x.revoke(1, true), 0);
    }

    private static void missingUserIsRevoked() {
        Check.promise(6, "IllegalArgumentException when there is none such");
        ProfileRights x = Rig.of(1, 2);
        x.revoke(2, true);
        Check.refusedOutside("on, user", 1, 2, u -> x.revoke(u, true));
        Check.refusedOutside("off, user", 1, 2, u -> x.revoke(u, false));
        Check.same("revoked ones", x.count(4), 1);
    }

    private static void promise7() {
        triesAtFirst();
        rightPassword();
        wrongPassword();
        noTriesLeft();
        passwordOfRevoked();
        missingUserTells();
    }

    private static void triesAtFirst() {
        Check.term("with TRIES left (3 at first)");
        ProfileRights x = Rig.of(1, 40);
        for (int user = 1; user <= 40; user++) {
            Check.same("a wrong one of user " + user, x.pass(user, false), 2);
        }
    }

    private static void rightPassword() {
        Check.promise(7, "3 behind the right one");
        ProfileRights x = Rig.of(1, 1);
        for (int told = 0; told < 3; told++) {
            for (int i = 0; i < told; i++) {
                x.pass(1, false);
            }
            Check.same("right behind " + told + " wrong ones", x.pass(1, true), 3);
            Check.same("right again", x.pass(1, true), 3);
        }
        Check.same("not more than 3 are there", x.pass(1, false), 2);
    }

    private static void wrongPassword() {
        Check.promise(7, "one less behind a wrong one");
        ProfileRights x = Rig.of(1, 2);
        for (int left = 2; left >= 0; left--) {
            Check.same("wrong", x.pass(1, false), left);
        }
        Check.same("another user's", x.pass(2, false), 2);
    }

    private static void noTriesLeft() {
        Check.promise(7, "at 0 the user is revoked");
        ProfileRights x = Rig.of(1, 2);
        x.pass(1, false);
        x.pass(1, false);
        Check.same("revoked at 1", x.count(4), 0);
        Check.same("may at 1", x.may(1, 0, 1, 0), 1);
        x.pass(1, false);
        Check.same("revoked at 0", x.count(4), 1);
        Check.same("may at 0", x.may(1, 0, 1, 0), 0);
        Check.same("another user's may", x.may(2, 0, 1, 0), 1);
        Check.same("it ends by revoke", x.revoke(1, false), 1);
        Check.same("may then", x.may(1, 0, 1, 0), 1);
    }

    private static void passwordOfRevoked() {
        Check.promise(7, "NONE, changing nothing, when it is revoked");
        ProfileRights x = Rig.of(1, 2);
        for (int i = 0; i < 3; i++) {
            x.pass(1, false);
        }
        x.revoke(2, true);
        for (int user = 1; user <= 2; user++) {
            Check.same("right", x.pass(user, true), NONE);
            Check.same("right again", x.pass(user, true), NONE);
            for (int i = 0; i < 4; i++) {
                Check.same("wrong", x.pass(user, false), NONE);
            }
            Check.same("revoked still", x.revoke(user, true), 0);
            x.revoke(user, false);
            Check.same("3 tries then", x.pass(user, false), 2);
        }
    }

    private static void missingUserTells() {
        Check.promise(7, "IllegalArgumentException when there is none such");
        ProfileRights x = Rig.of(1, 2);
        Check.refusedOutside("right, user", 1, 2, u -> x.pass(u, true));
        Check.refusedOutside("wrong, user", 1, 2, u -> x.pass(u, false));
        Check.same("tries of user 1", x.pass(1, false), 2);
        Check.same("tries of user 2", x.pass(2, false), 2);
    }

    private static void promise19() {
        actsAsToldLatest();
        eachActsForItself();
        missingUserActs();
    }

    private static void actsAsToldLatest() {
        Check.promise(19, "what surrogate() told latest");
        onlyThePairActs(1, 40);
        onlyThePairActs(40, 1);
        onlyThePairActs(33, 32);
        ProfileRights x = Rig.of(1, 3);
        x.surrogate(1, 2, true);
        x.surrogate(2, 3, true);
        Check.same("by way of another", Check.told(x.acts(1, 3)), 0);
        x.surrogate(1, 3, true);
        Check.same("the one told before stays", Check.told(x.acts(1, 2)), 1);
        x.surrogate(1, 2, false);
        Check.same("told on, then off", Check.told(x.acts(1, 2)), 0);
        Check.same("the other one stays", Check.told(x.acts(1, 3)), 1);
        x.surrogate(1, 2, true);
        Check.same("told on again", Check.told(x.acts(1, 2)), 1);
        x.revoke(1, true);
        x.revoke(2, true);
        Check.same("of revoked ones too", Check.told(x.acts(1, 2)), 1);
    }

    /** An object answers 512 calls, so that ten users a time are looked at. */
    private static void onlyThePairActs(int actor, int stoodFor) {
        for (int first = 1; first <= 40; first += 10) {
            ProfileRights x = Rig.of(1, 40);
            x.surrogate(actor, stoodFor, true);
            for (int user = first; user < first + 10; user++) {
                for (int other = 1; other <= 40; other++) {
                    boolean due = user == other || user == actor && other == stoodFor;
                    Check.same(user + " for " + other, Check.told(x.acts(user, other)), Check.told(due));
                }
            }
        }
    }

    private static void eachActsForItself() {
        Check.promise(19, "each for itself");
        ProfileRights x = Rig.of(1, 40);
        for (int user = 1; user <= 40; user++) {
            Check.same("at first", Check.told(x.acts(user, user)), 1);
            x.surrogate(user, user, false);
            Check.same("behind off", Check.told(x.acts(user, user)), 1);
            x.surrogate(user, user, true);
            x.surrogate(user, user, false);
            Check.same("behind on and off", Check.told(x.acts(user, user)), 1);
        }
    }

    private static void missingUserActs() {
        Check.promise(19, "IllegalArgumentException when there is none such");
        ProfileRights x = Rig.of(1, 2);
        Check.refusedOutside("user", 1, 2, u -> Check.told(x.acts(u, 1)));
        Check.refusedOutside("other", 1, 2, u -> Check.told(x.acts(1, u)));
        Check.refusedOutside("both, as one", 1, 2, u -> Check.told(x.acts(u, u)));
        ProfileRights full = Rig.of(1, 40);
        Check.same("the last one", 0, () -> Check.told(full.acts(40, 1)));
        Check.refused("behind the last one", () -> Check.told(full.acts(41, 1)));
        Check.refused("for the one behind the last", () -> Check.told(full.acts(1, 41)));
    }

    private static void promise20() {
        surrogateChanges();
        surrogateWasSo();
        surrogateOfItself();
        missingSurrogate();
    }

    private static void surrogateChanges() {
        Check.promise(20, "A user may act for another one from now on, or not: 1");
        ProfileRights x = Rig.of(1, 40);
        for (int other = 2; other <= 40; other++) {
            Check.same("on for " + other, x.surrogate(1, other, true), 1);
        }
        Check.same("the other way", x.surrogate(40, 1, true), 1);
        for (int other = 2; other <= 40; other++) {
            Check.same("off for " + other, x.surrogate(1, other, false), 1);
        }
        Check.same("the other way stays", Check.told(x.acts(40, 1)), 1);
    }

    private static void surrogateWasSo() {
        Check.promise(20, "0 when it was so");
        ProfileRights x = Rig.of(1, 2);
        Check.same("off at first", x.surrogate(1, 2, false), 0);
        Check.same("off still", Check.told(x.acts(1, 2)), 0);
        x.surrogate(1, 2, true);
        Check.same("on twice", x.surrogate(1, 2, true), 0);
        Check.same("on still", Check.told(x.acts(1, 2)), 1);
        x.surrogate(1, 2, false);
        Check.same("off twice", x.surrogate(1, 2, false), 0);
        Check.same("off still", Check.told(x.acts(1, 2)), 0);
    }

    private static void surrogateOfItself() {
        Check.promise(20, "or both are one");
        ProfileRights x = Rig.of(1, 40);
        for (int user = 1; user <= 40; user++) {
            Check.same("on", x.surrogate(user, user, true), 0);
            Check.same("on again", x.surrogate(user, user, true), 0);
            Check.same("off", x.surrogate(user, user, false), 0);
            Check.same("off again", x.surrogate(user, user, false), 0);
        }
    }

    private static void missingSurrogate() {
        Check.promise(20, "IllegalArgumentException when there is none such");
        ProfileRights x = Rig.of(1, 2);
        Check.refusedOutside("user", 1, 2, u -> x.surrogate(u, 1, true));
        Check.refusedOutside("other", 1, 2, u -> x.surrogate(1, u, true));
        Check.refusedOutside("off, user", 1, 2, u -> x.surrogate(u, 1, false));
        Check.refusedOutside("off, other", 1, 2, u -> x.surrogate(1, u, false));
        Check.refusedOutside("both, as one", 1, 2, u -> x.surrogate(u, u, true));
        x.user(1);
        Check.same("the user made then", Check.told(x.acts(1, 3)), 0);
    }
}
