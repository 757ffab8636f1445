/** Promises 8 to 13 and 18, sentence by sentence. */
public final class ProfilesTest {
    private static final int NONE = ProfileRights.NONE;

    private ProfilesTest() {
    }

    public static void main(String[] args) {
        promise8();
        promise9();
        promise10();
        promise11();
        promise12();
        promise13();
        promise18();
        Check.end("ProfilesTest");
    }

    private static void promise8() {
        modeAtFirst();
        modeBefore();
        missingMode();
    }

    private static void modeAtFirst() {
        Check.term("CLASSES 0 .. 7 have a MODE: 0 off (at first)");
        ProfileRights x = new ProfileRights();
        for (int cls = 0; cls <= 7; cls++) {
            Check.same("mode of class " + cls, x.mode(cls, 2), 0);
        }
    }

    private static void modeBefore() {
        Check.promise(8, "A class's mode becomes m: what it was");
        ProfileRights x = new ProfileRights();
        int before = 0;
        for (int m : new int[] {0, 1, 1, 2, 2, 0, 2, 1, 0}) {
            Check.same("to " + m, x.mode(7, m), before);
            before = m;
        }
        for (int cls = 0; cls <= 7; cls++) {
            x.mode(cls, cls % 3);
        }
        for (int cls = 0; cls <= 7; cls++) {
            Check.same("own mode of class " + cls, x.mode(cls, 0), cls % 3);
        }
    }

    private static void missingMode() {
        Check.promise(8, "IllegalArgumentException when one is not so");
        ProfileRights x = new ProfileRights();
        x.mode(0, 2);
        x.mode(7, 1);
        Check.refusedOutside("class", 0, 7, cls -> x.mode(cls, 0));
        Check.refusedOutside("mode", 0, 2, m -> x.mode(0, m));
        Check.refused("both", () -> x.mode(8, 3));
        Check.same("mode of class 0", x.mode(0, 0), 2);
        Check.same("mode of class 7", x.mode(7, 0), 1);
    }

    private static void promise9() {
        profilesAreNumbered();
        profileHasAnEmptyName();
        profileAtFirst();
        ownerHasNoRight();
        profileOfMissingOnes();
        profilesAreFull();
    }

    private static void profilesAreNumbered() {
        Check.term("PROFILES are numbered from 1 on (at most 60)");
        ProfileRights x = Rig.of(1, 2);
        for (int i = 1; i <= 60; i++) {
            Check.same("profile " + i, x.profile(i % 8, 1 + i % 2), i);
            Check.same("profiles", x.count(2), i);
        }
    }

    private static void profileHasAnEmptyName() {
        Check.promise(9, "A new profile with an empty name");
        ProfileRights x = Rig.guarded("");
        Check.same("the empty name fits it", Rig.matched(x, ""), 1);
        Check.same("a name of one character does not", Rig.matched(x, "A"), 0);
        Rig.guard(x, Rig.TWENTY);
        x.profile(0, 1);
        Check.same("empty behind a full one too", x.name(3, 'A'), 1);
    }

    private static void profileAtFirst() {
        Check.term("a UNIVERSAL level (0 at first), a LIST, and marks (none at first)");
        ProfileRights x = Rig.guarded("A");
        Check.same("may", Rig.may(x, 1, 1, "A"), 0);
        Check.same("level and marks", x.universal(1, 4, 7), 0);
        Check.same("the list's first entry", x.who(1, 0), 0);
        Check.same("entries", x.count(5), 0);
        x.profile(0, 1);
        Check.same("level and marks of the next one", x.universal(2, 0, 0), 0);
    }

    private static void ownerHasNoRight() {
        Check.term("an owner (a user; that gives no right)");
        ProfileRights x = Rig.strict();
        x.profile(0, 2);
        for (int level = 1; level <= 4; level++) {
            Check.same("level " + level, Rig.may(x, 2, level, ""), 0);
        }
        x.permit(1, 2, 0);
        Check.same("behind an entry of level 0", Rig.may(x, 2, 1, ""), 0);
    }

    private static void profileOfMissingOnes() {
        Check.promise(9, "IllegalArgumentException when class or owner is none");
        ProfileRights none = Rig.of(1, 0);
        Check.refused("an owner where there are no users", () -> none.profile(0, 1));
        ProfileRights x = Rig.of(1, 3);
        Check.refusedOutside("class", 0, 7, cls -> x.profile(cls, 1));
        Check.refusedOutside("owner", 1, 3, owner -> x.profile(0, owner));
        Check.refused("both", () -> x.profile(8, 4));
        Check.same("profiles", x.count(2), 0);
        Check.same("first class, last owner", 1, () -> x.profile(0, 3));
        Check.same("last class, first owner", 2, () -> x.profile(7, 1));
        x.revoke(2, true);
        Check.same("a revoked owner is one", 3, () -> x.profile(0, 2));
    }

    private static void profilesAreFull() {
        Check.promise(9, "IllegalStateException when there are 60");
        ProfileRights x = Rig.of(1, 2);
        for (int i = 1; i <= 59; i++) {
            x.profile(0, 1);
        }
        Check.same("the 60th", 60, () -> x.profile(0, 1));
        Check.full("the 61st", () -> x.profile(0, 1));
        Check.full("the 61st of another class and owner", () -> x.profile(7, 2));
        Check.refused("the 61st of a missing class", () -> x.profile(8, 1));
        Check.refused("the 61st of a missing owner", () -> x.profile(0, 3));
        Check.same("profiles", x.count(2), 60);
        Check.same("the 60th is one", 1, () -> x.name(60, 'A'));
        Check.refused("the 61st is none", () -> x.name(61, 'A'));
    }

    private static void promise10() {
        characterComesBehind();
        nameOfMissingOnes();
        nameIsFull();
    }

    private static void characterComesBehind() {
        Check.promise(10, "A character comes behind a profile's name: how many it has");
        ProfileRights x = Rig.of(1, 1);
        x.mode(0, 2);
        for (int p = 1; p <= 5; p++) {
            x.profile(0, 1);
        }
        // All 94 characters there are, 20 for a profile.
        for (int c = 33; c <= 126; c++) {
            int p = 1 + (c - 33) / 20;
            Check.same("character " + c, x.name(p, c), (c - 33) % 20 + 1);
        }
        Check.same("they stand in their order", Rig.matched(x, "qrstuvwxyz{|}~"), 5);
        Check.same("and in no other", Rig.matched(x, "rqstuvwxyz{|}~"), 0);
    }

    private static void nameOfMissingOnes() {
        Check.promise(10, "IllegalArgumentException when there is no such profile, or character");
        ProfileRights none = Rig.of(1, 1);
        Check.refused("profile 1 where there is none", () -> none.name(1, 'A'));
        ProfileRights x = Rig.guarded("A");
        x.profile(0, 1);
        Check.refusedOutside("character", 33, 126, c -> x.name(1, c));
        Check.refused("character 0", () -> x.name(1, 0));
        Check.refused("character -1", () -> x.name(1, -1));
        Check.refusedOutside("profile", 1, 2, p -> x.name(p, 'A'));
        Check.refused("both", () -> x.name(3, 127));
        Check.same("the name is as before", Rig.matched(x, "A"), 1);
        Check.same("the last profile's name", x.name(2, 'A'), 1);
    }

    private static void nameIsFull() {
        Check.promise(10, "IllegalStateException when it has 20");
        ProfileRights x = Rig.guarded(Rig.TWENTY.substring(0, 19));
        Check.same("the 20th", 20, () -> x.name(1, 'T'));
        for (int c : new int[] {'T', '*', '%', 33, 126}) {
            Check.full("the 21st", () -> x.name(1, c));
        }
        Check.refused("the 21st, no character", () -> x.name(1, 32));
        Check.refused("the 21st, no character", () -> x.name(1, 127));
        Check.same("the name is as before", Rig.matched(x, Rig.TWENTY), 1);
        x.profile(0, 1);
        Check.same("another profile has room", x.name(2, 'A'), 1);
        twentyGenericCharacters();
    }

    private static void twentyGenericCharacters() {
        ProfileRights x = Rig.guarded("*".repeat(20));
        Check.full("the 21st behind 20 *", () -> x.name(1, '*'));
        Rig.guard(x, "%".repeat(20));
        Check.full("the 21st behind 20 %", () -> x.name(2, 'A'));
    }

    private static void promise11() {
        universalBefore();
        missingUniversal();
    }

    private static void universalBefore() {
        Check.promise(11, "8 * the level + the marks that it had");
        ProfileRights x = Rig.of(1, 1);
        x.profile(0, 1);
        x.profile(0, 1);
        x.universal(2, 4, 7);
        int before = 0;
        for (int level = 4; level >= 0; level--) {
            for (int marks = 0; marks <= 7; marks++) {
                Check.same("to " + level + " and " + marks, x.universal(1, level, marks), before);
                before = 8 * level + marks;
            }
        }
        Check.same("another profile's", x.universal(2, 0, 0), 39);
    }

    private static void missingUniversal() {
        Check.promise(11, "IllegalArgumentException when one is not so (marks 0 .. 7)");
        ProfileRights x = Rig.of(1, 1);
        Check.refused("profile 1 where there is none", () -> x.universal(1, 0, 0));
        x.profile(0, 1);
        x.profile(0, 1);
        x.universal(1, 3, 5);
        Check.refused("NONE as a level", () -> x.universal(1, NONE, 0));
        Check.refusedOutside("level", 0, 4, level -> x.universal(1, level, 0));
        Check.refusedOutside("marks", 0, 7, marks -> x.universal(1, 0, marks));
        Check.refusedOutside("profile", 1, 2, p -> x.universal(p, 0, 0));
        Check.same("as before", x.universal(1, 4, 7), 29);
        Check.same("the highest ones", x.universal(1, 0, 0), 39);
    }

    private static void promise12() {
        permitMakesEntries();
        permitTellsTheLevel();
        permitTakesEntries();
        newEntryIsOpen();
        permitOfMissingOnes();
        listIsFull();
        listsAreApart();
    }

    private static void permitMakesEntries() {
        Check.promise(12, "An entry for a user (who above 0) or a group (- who)");
        ProfileRights x = Rig.of(20, 40);
        x.mode(0, 2);
        Rig.guard(x, "A");
        x.permit(1, 20, 4);
        Check.same("user 20", Rig.levelOnA(x, 20, 0), 4);
        Check.same("a user of group 1", Rig.levelOnA(x, 19, 0), 0);
        x.permit(1, -1, 2);
        Check.same("user 1 by group 1", Rig.levelOnA(x, 1, 0), 2);
        x.permit(1, 1, 3);
        Check.same("user 1", Rig.levelOnA(x, 1, 0), 3);
        Check.same("user 2 by group 1", Rig.levelOnA(x, 2, 0), 2);
        Check.same("the last user", x.permit(1, 40, 0), NONE);
        Check.same("the last group", x.permit(1, -20, 0), NONE);
        Check.same("entries", x.count(5), 5);
    }

    private static void permitTellsTheLevel() {
        Check.promise(12, "the level that it had, NONE for none");
        ProfileRights x = Rig.of(1, 1);
        x.profile(0, 1);
        for (int who : new int[] {1, -1}) {
            int before = NONE;
            for (int level : new int[] {0, 0, 4, 4, 3, 2, 1, 0}) {
                Check.same("to " + level, x.permit(1, who, level), before);
                before = level;
            }
        }
        Check.same("entries", x.count(5), 2);
    }

    private static void permitTakesEntries() {
        Check.promise(12, "by NONE as a level it goes");
        ProfileRights x = Rig.guarded("A");
        Check.same("none to go", x.permit(1, 1, NONE), NONE);
        Check.same("nor made by it", x.count(5), 0);
        x.universal(1, 1, 0);
        x.permit(1, 1, 0);
        x.permit(1, -1, 3);
        Check.same("a group's", x.permit(1, -1, NONE), 3);
        Check.same("the user's stays", Rig.levelOnA(x, 1, 0), 0);
        Check.same("the user's, of level 0", x.permit(1, 1, NONE), 0);
        Check.same("the universal level counts", Rig.levelOnA(x, 1, 0), 1);
        Check.same("it is gone", x.permit(1, 1, NONE), NONE);
        Check.same("entries", x.count(5), 0);
        Check.same("it comes again", x.permit(1, 1, 2), NONE);
    }

    private static void newEntryIsOpen() {
        Check.promise(12, "A new one has terminal 0 and all hours");
        ProfileRights x = Rig.guarded("");
        x.permit(1, 1, 4);
        everyHourIsOpen(x);
        x.condition(1, 1, 5, 1);
        x.permit(1, 1, 3);
        Check.same("an old one keeps its terminal", Rig.may(x, 1, 3, ""), 0);
        x.terminal(1, 5);
        Check.same("and its hours", Rig.mayAt(x, 1, 3, "", 60), 0);
        Check.same("and has the new level there", Rig.may(x, 1, 3, ""), 1);
        Check.same("and no more", Rig.may(x, 1, 4, ""), 0);
        x.permit(1, 1, NONE);
        x.permit(1, 1, 4);
        everyHourIsOpen(x);
    }

    private static void everyHourIsOpen(ProfileRights x) {
        for (int terminal : new int[] {0, 1, 99}) {
            x.terminal(1, terminal);
            for (int hour = 0; hour < 24; hour++) {
                Check.same("terminal " + terminal + ", hour " + hour, x.may(1, 0, 4, 60L * hour), 1);
            }
        }
    }

    private static void permitOfMissingOnes() {
        Check.promise(12, "IllegalArgumentException when profile, who or level is not so");
        ProfileRights x = Rig.of(2, 3);
        Check.refused("profile 1 where there is none", () -> x.permit(1, 1, 1));
        x.profile(0, 1);
        x.permit(1, 1, 2);
        Check.refusedOutside("profile", 1, 1, p -> x.permit(p, 1, 1));
        for (int who : new int[] {0, 4, -3, 257, -257, 65537, Integer.MIN_VALUE, Integer.MAX_VALUE}) {
            Check.refused("who " + who, () -> x.permit(1, who, 1));
            Check.refused("who " + who + ", to go", () -> x.permit(1, who, NONE));
        }
        Check.refusedOutside("level", NONE, 4, level -> x.permit(1, 1, level));
        Check.refusedOutside("level, no entry", NONE, 4, level -> x.permit(1, 2, level));
        Check.same("entries", x.count(5), 1);
        Check.same("the level is as before", x.permit(1, 1, 0), 2);
        Check.same("the last user", NONE, () -> x.permit(1, 3, 4));
        Check.same("the last group", NONE, () -> x.permit(1, -2, 0));
    }

    private static void listIsFull() {
        Check.promise(12, "IllegalStateException when the list has 10");
        ProfileRights x = Rig.of(2, 11);
        x.profile(0, 1);
        for (int user = 1; user <= 8; user++) {
            x.permit(1, user, 1);
        }
        Check.same("the 9th", NONE, () -> x.permit(1, -1, 1));
        Check.same("the 10th", NONE, () -> x.permit(1, 10, 1));
        Check.full("the 11th", () -> x.permit(1, 11, 1));
        Check.full("the 11th, for a group", () -> x.permit(1, -2, 0));
        Check.refused("the 11th, for nobody", () -> x.permit(1, 12, 1));
        Check.refused("the 11th, of no level", () -> x.permit(1, 11, 5));
        Check.same("entries", x.count(5), 10);
        Check.same("one of the ten has another level", 1, () -> x.permit(1, 10, 4));
        Check.same("a missing one goes", NONE, () -> x.permit(1, 11, NONE));
        Check.same("one of the ten goes", 1, () -> x.permit(1, 1, NONE));
        Check.same("there is room for one", NONE, () -> x.permit(1, 11, 1));
        Check.full("and for no more", () -> x.permit(1, 1, 1));
    }

    private static void listsAreApart() {
        Check.term("A list has at most 10 ENTRIES");
        ProfileRights x = Rig.of(1, 10);
        for (int p = 1; p <= 40; p++) {
            x.profile(0, 1);
            for (int user = 1; user <= 10; user++) {
                Check.same("profile " + p + ", user " + user, x.permit(p, user, 1), NONE);
            }
        }
        Check.full("the 11th of the first", () -> x.permit(1, -1, 1));
        Check.full("the 11th of the last", () -> x.permit(40, -1, 1));
        Check.same("entries", x.count(5), 400);
    }

    private static void promise13() {
        conditionByTerminal();
        conditionByHours();
        conditionWithoutEntry();
        conditionOfMissingOnes();
    }

    private static void conditionByTerminal() {
        Check.promise(13, "An entry's terminal 0 .. 99");
        ProfileRights x = Rig.guarded("");
        x.permit(1, 1, 4);
        for (int terminal : new int[] {1, 50, 99}) {
            Check.same("to " + terminal, x.condition(1, 1, terminal, -1), 1);
            for (int at : new int[] {0, terminal - 1, terminal, (terminal + 1) % 100}) {
                x.terminal(1, at);
                Check.same("from " + at + " for " + terminal, x.may(1, 0, 4, 0), Check.told(at == terminal));
            }
        }
        Check.same("to 0", x.condition(1, 1, 0, -1), 1);
        for (int at : new int[] {0, 1, 99}) {
            x.terminal(1, at);
            Check.same("from " + at + " for any", x.may(1, 0, 4, 0), 1);
        }
    }

    private static void conditionByHours() {
        Check.promise(13, "and hours (the lowest 24 bits): 1");
        ProfileRights x = Rig.guarded("");
        x.permit(1, 1, 4);
        openHours(x, 0, 0);
        openHours(x, 1, 1);
        openHours(x, 1 << 23, 1 << 23);
        openHours(x, 1 << 24, 0);
        openHours(x, Integer.MIN_VALUE, 0);
        openHours(x, 0xFF000000, 0);
        openHours(x, Integer.MAX_VALUE, Rig.ALL_HOURS);
        openHours(x, -1, Rig.ALL_HOURS);
        openHours(x, -2, Rig.ALL_HOURS - 1);
    }

    private static void openHours(ProfileRights x, int hours, int due) {
        Check.same("condition", x.condition(1, 1, 0, hours), 1);
        for (int hour = 0; hour < 24; hour++) {
            Check.same("hour " + hour + " of " + hours, x.may(1, 0, 4, 60L * hour), due >> hour & 1);
        }
    }

    private static void conditionWithoutEntry() {
        Check.promise(13, "0 when there is no such entry");
        ProfileRights x = Rig.guarded("");
        Check.same("an empty list", x.condition(1, 1, 0, 0), 0);
        x.permit(1, 1, 4);
        Check.same("another user's", x.condition(1, 2, 5, 0), 0);
        Check.same("the group's", x.condition(1, -1, 5, 0), 0);
        x.profile(0, 1);
        Check.same("another profile's", x.condition(2, 1, 5, 0), 0);
        Check.same("entries", x.count(5), 1);
        Check.same("the one there is", x.may(1, 0, 4, 0), 1);
        x.permit(1, 1, NONE);
        Check.same("one that is gone", x.condition(1, 1, 5, 0), 0);
    }

    private static void conditionOfMissingOnes() {
        Check.promise(13, "IllegalArgumentException when profile, who or terminal is not so");
        ProfileRights x = Rig.strict();
        Check.refused("profile 1 where there is none", () -> x.condition(1, 1, 0, 0));
        x.profile(0, 1);
        x.permit(1, 1, 4);
        Check.refusedOutside("profile", 1, 1, p -> x.condition(p, 1, 0, 0));
        for (int who : new int[] {0, 3, -2, 257, -257, 65537, Integer.MIN_VALUE, Integer.MAX_VALUE}) {
            Check.refused("who " + who, () -> x.condition(1, who, 0, 0));
        }
        Check.refusedOutside("terminal", 0, 99, t -> x.condition(1, 1, t, 0));
        Check.refusedOutside("terminal, no entry", 0, 99, t -> x.condition(1, 2, t, 0));
        Check.same("the entry is as before", x.may(1, 0, 4, 0), 1);
    }

    private static void promise18() {
        entriesInTheirOrder();
        noEntryThere();
        listOfMissingProfile();
    }

    private static void entriesInTheirOrder() {
        Check.promise(18, "The i-th entry of a profile's list, in the order in which they came: who it is for");
        ProfileRights x = Rig.of(3, 3);
        x.profile(0, 1);
        for (int who : new int[] {3, -3, 1, -1, 2}) {
            x.permit(1, who, 0);
        }
        list("at first", x, 3, -3, 1, -1, 2);
        x.permit(1, 3, 4);
        x.condition(1, 1, 5, 0);
        list("behind other levels and hours", x, 3, -3, 1, -1, 2);
        x.permit(1, 1, NONE);
        list("one between is gone", x, 3, -3, -1, 2);
        x.permit(1, 3, NONE);
        list("the first is gone", x, -3, -1, 2);
        x.permit(1, 2, NONE);
        list("the last is gone", x, -3, -1);
        x.permit(1, 3, 1);
        x.permit(1, -3, NONE);
        x.permit(1, -3, 1);
        list("come again they are last", x, -1, 3, -3);
        fullList();
    }

    private static void fullList() {
        ProfileRights x = Rig.of(1, 11);
        x.profile(0, 1);
        for (int i = 1; i <= 10; i++) {
            x.permit(1, i, 1);
        }
        list("full", x, 1, 2, 3, 4, 5, 6, 7, 8, 9, 10);
        Check.full("the 11th", () -> x.permit(1, 11, 1));
        list("behind a refused one", x, 1, 2, 3, 4, 5, 6, 7, 8, 9, 10);
        x.permit(1, 1, NONE);
        x.permit(1, 11, 1);
        list("the first made room", x, 2, 3, 4, 5, 6, 7, 8, 9, 10, 11);
    }

    private static void list(String what, ProfileRights x, int... whos) {
        for (int i = 0; i < whos.length; i++) {
            Check.same(what + ", entry " + i, x.who(1, i), whos[i]);
        }
        Check.same(what + ", behind the last", x.who(1, whos.length), 0);
    }

    private static void noEntryThere() {
        Check.promise(18, "0 for none");
        ProfileRights x = Rig.of(1, 10);
        x.profile(0, 1);
        x.profile(0, 1);
        Check.same("an empty list", x.who(1, 0), 0);
        for (int i = 1; i <= 10; i++) {
            x.permit(1, i, 1);
        }
        for (int i : new int[] {-1, 10, 11, 256, -256, 65536, Integer.MIN_VALUE, Integer.MAX_VALUE}) {
            Check.same("entry " + i + " of a full list", x.who(1, i), 0);
        }
        Check.same("another profile's list", x.who(2, 0), 0);
        x.permit(2, 3, 1);
        Check.same("entry 1 of a list of one", x.who(2, 1), 0);
        Check.same("entry -1 of a list of one", x.who(2, -1), 0);
        x.permit(2, 3, NONE);
        Check.same("entry 0 of a list that has become empty", x.who(2, 0), 0);
    }

    private static void listOfMissingProfile() {
        Check.promise(18, "IllegalArgumentException when there is no such profile");
        ProfileRights x = Rig.of(1, 1);
        Check.refused("profile 1 where there is none", () -> x.who(1, 0));
        x.profile(0, 1);
        x.profile(0, 1);
        Check.same("the last one", 0, () -> x.who(2, 0));
        Check.refusedOutside("profile", 1, 2, p -> x.who(p, 0));
        Check.refused("both", () -> x.who(3, -1));
    }
}
