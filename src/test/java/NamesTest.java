/** Promise 14 and the terms of names, sentence by sentence: which profile fits, and which one counts. */
public final class NamesTest {
    private NamesTest() {
    }

    public static void main(String[] args) {
        promise14();
        fitting();
        mostSpecial();
        Check.end("NamesTest");
    }

    private static void promise14() {
        characterIsAsked();
        otherEmptiesTheName();
        askedNameIsFull();
    }

    private static void characterIsAsked() {
        Check.promise(14, "A character 33 .. 126 comes behind the name that is asked: how many it has");
        ProfileRights x = new ProfileRights();
        for (int c = 33; c <= 126; c++) {
            int due = (c - 33) % 20 + 1;
            Check.same("character " + c, x.ask(c), due);
            if (due == 20) {
                x.ask(0);
            }
        }
        ProfileRights y = Rig.guarded("!~B");
        Check.same("they stand in their order", Rig.matched(y, "!~B"), 1);
        Check.same("and in no other", Rig.matched(y, "~!B"), 0);
        Rig.ask(y, "!~");
        y.profile(0, 1);
        y.matched();
        y.name(2, 'Z');
        Check.same("other calls leave the name", Rig.matched(y, "B"), 1);
    }

    private static void otherEmptiesTheName() {
        Check.promise(14, "(others: it is empty then)");
        ProfileRights x = Rig.guarded("A");
        int[] others = {32, 127, 0, -1, 33 - 256, 33 + 256, 65 + 65536, -65,
            Integer.MIN_VALUE, Integer.MAX_VALUE};
        for (int other : others) {
            Check.same("asking " + other + " of an empty name", x.ask(other), 0);
            Rig.ask(x, "BA");
            Check.same("asking " + other, x.ask(other), 0);
            Check.same("the next character", x.ask('A'), 1);
            x.may(1, 0, 4, 0);
            Check.same("nothing of the old name is left", x.matched(), 1);
        }
        Rig.ask(x, Rig.TWENTY);
        Check.same("of a full name", x.ask(127), 0);
        Check.same("the next character then", x.ask('A'), 1);
    }

    private static void askedNameIsFull() {
        Check.promise(14, "the 21st and more are lost");
        ProfileRights x = Rig.guarded(Rig.TWENTY);
        Rig.ask(x, Rig.TWENTY.substring(0, 19));
        Check.same("the 20th", x.ask('T'), 20);
        for (int i = 21; i <= 60; i++) {
            Check.same("the " + i + "th", x.ask('Z'), 20);
        }
        x.may(1, 0, 1, 0);
        Check.same("the first 20 are the name", x.matched(), 1);
        Check.same("the name is empty then", x.ask('A'), 1);
    }

    private static void fits(String pattern, String name, boolean due) {
        ProfileRights x = Rig.guarded(pattern);
        Check.same("'" + name + "' by '" + pattern + "'", Rig.matched(x, name), Check.told(due));
    }

    private static void fitting() {
        exactNames();
        anyOne();
        anyRow();
        bothTogether();
        askedOnesAreNotGeneric();
        fullNames();
        onlyOfItsClass();
    }

    private static void exactNames() {
        Check.term("A name FITS a profile of its class if it is as the profile's name says");
        fits("", "", true);
        fits("", "A", false);
        fits("A", "", false);
        fits("A", "A", true);
        fits("AB", "AB", true);
        fits("AB", "A", false);
        fits("AB", "B", false);
        fits("AB", "ABC", false);
        fits("AB", "XAB", false);
        fits("AB", "BA", false);
        fits("a", "A", false);
    }

    private static void anyOne() {
        Check.term("% stands for any one");
        fits("%", "A", true);
        fits("%", "!", true);
        fits("%", "~", true);
        fits("%", "%", true);
        fits("%", "*", true);
        fits("%", "", false);
        fits("%", "AB", false);
        fits("A%C", "ABC", true);
        fits("A%C", "AC", false);
        fits("A%C", "ABBC", false);
        fits("%%", "A", false);
        fits("%%", "AB", true);
        fits("%%", "ABC", false);
        fits("A%", "A", false);
        fits("%A", "A", false);
    }

    private static void anyRow() {
        Check.term("* for any row (none, too)");
        fits("*", "", true);
        fits("*", "A", true);
        fits("A*", "A", true);
        fits("A*", "AXYZ", true);
        fits("A*", "", false);
        fits("A*", "BA", false);
        fits("*A", "A", true);
        fits("*A", "AAA", true);
        fits("*A", "AAB", false);
        fits("A*B", "AB", true);
        fits("A*B", "ABAB", true);
        fits("A*B", "ABA", false);
        fits("A*A", "A", false);
        fits("*AB*", "XAABX", true);
        fits("*AB*", "XAXBX", false);
        fits("*AB*CD*", "ACABABCCD", true);
        fits("*AB*CD*", "CDAB", false);
        fits("**", "", true);
        fits("**", "AB", true);
    }

    private static void bothTogether() {
        Check.term("of which % stands for any one, * for any row");
        fits("*%", "", false);
        fits("*%", "A", true);
        fits("*%", "AB", true);
        fits("%*", "", false);
        fits("%*%", "A", false);
        fits("%*%", "AB", true);
        fits("%*%", "ABC", true);
        fits("*%*%*", "A", false);
        fits("A*%B", "AB", false);
        fits("A*%B", "ABB", true);
        fits("*A%", "AA", true);
        fits("*A%", "BA", false);
    }

    private static void askedOnesAreNotGeneric() {
        Check.term("a NAME of up to 20 characters 33 .. 126, of which % stands for any one (a profile's alone)");
        fits("A", "%", false);
        fits("A", "*", false);
        fits("AB", "*", false);
        fits("", "*", false);
        fits("*", "*", true);
        fits("A*", "A*", true);
        fits("%%", "A*", true);
    }

    private static void fullNames() {
        Check.term("a NAME of up to 20 characters");
        fits(Rig.TWENTY, Rig.TWENTY, true);
        fits(Rig.TWENTY, Rig.TWENTY.substring(0, 19), false);
        fits(Rig.TWENTY.substring(0, 19), Rig.TWENTY, false);
        fits(Rig.TWENTY.substring(0, 19) + "*", Rig.TWENTY, true);
        fits(Rig.TWENTY.substring(0, 19) + "*", Rig.TWENTY.substring(0, 19), true);
        fits("*" + Rig.TWENTY.substring(1), Rig.TWENTY, true);
        fits("*" + Rig.TWENTY.substring(1), "B" + Rig.TWENTY.substring(1), true);
        fits("%".repeat(20), Rig.TWENTY, true);
        fits("%".repeat(20), Rig.TWENTY.substring(1), false);
        fits("*".repeat(20), "", true);
        fits("*".repeat(20), Rig.TWENTY, true);
        fits("*A".repeat(9) + "*B", "A".repeat(20), false);
        fits("*A".repeat(10), "A".repeat(20), true);
        fits("*A".repeat(10), "A".repeat(9), false);
        fits("*%".repeat(10), "A".repeat(10), true);
        fits("*%".repeat(10), "A".repeat(9), false);
    }

    private static void onlyOfItsClass() {
        Check.term("a profile of its class");
        ProfileRights x = Rig.strict();
        x.mode(7, 2);
        int other = Rig.guard(x, 7, "A");
        Check.same("by a profile of another class", Rig.matched(x, "A"), 0);
        int own = Rig.guard(x, "*");
        Check.same("before a more special one of another class", Rig.matched(x, "A"), own);
        x.ask('A');
        x.may(1, 7, 1, 0);
        Check.same("by the profile of class 7", x.matched(), other);
    }

    /** The first pattern is the most special one, wherever it stands among the others. */
    private static void special(String name, String... patterns) {
        for (int turn = 0; turn < patterns.length; turn++) {
            ProfileRights x = Rig.strict();
            int due = 0;
            for (int i = 0; i < patterns.length; i++) {
                int k = (i + turn) % patterns.length;
                int p = Rig.guard(x, patterns[k]);
                due = k == 0 ? p : due;
            }
            Check.same("for '" + name + "', turn " + turn, Rig.matched(x, name), due);
        }
    }

    private static void mostSpecial() {
        exactBeforeGeneric();
        moreAhead();
        moreOthers();
        lesserNumber();
        onlyThoseThatFit();
    }

    private static void exactBeforeGeneric() {
        Check.term("the MOST SPECIAL one is: one without % and *");
        special("AB", "AB", "*", "A*", "AB*", "A%", "%%");
        special("A", "A", "A*");
        special("", "", "*");
        special("A".repeat(20), "A".repeat(20), "A".repeat(19) + "%", "A".repeat(19) + "*");
        // Exact, though the generic one has as many characters ahead and as many others.
        special("AB", "AB", "AB*", "AB**");
    }

    private static void moreAhead() {
        Check.term("else that with more characters ahead of its first % or *");
        special("ABC", "AB*", "A%C", "A*C", "%BC", "*");
        special("ABC", "AB%", "A*BC");
        special("AXBCD", "AX*", "A*BCD", "*XBCD");
        special("AB", "A%", "%B", "*B", "*");
        special("AB", "A*", "%B", "*B", "*AB");
        special("A".repeat(20), "A".repeat(19) + "*", "A".repeat(18) + "*A");
        special("A".repeat(20), "A*", "*" + "A".repeat(19));
    }

    private static void moreOthers() {
        Check.term("else that with more characters other than % and *");
        special("ABC", "A*C", "A%%", "A*", "A***", "A%*");
        special("ABCDE", "*BCD*", "*CD*", "%*D%", "*");
        special("ABC", "%B%", "%%%", "*");
        special("A".repeat(20), "*" + "A".repeat(19), "*" + "A".repeat(18), "%" + "A".repeat(18) + "*");
    }

    private static void lesserNumber() {
        Check.term("else the lesser number");
        String[][] equals = {{"A%", "A*"}, {"A*", "A%"}, {"A*", "A**"}, {"A**", "A*"}, {"AB", "AB"},
            {"*", "*"}, {"%B", "*B"}, {"*A%", "%%*B"}, {"A%*", "A*"}};
        for (String[] pair : equals) {
            ProfileRights x = Rig.guarded(pair[0]);
            Rig.guard(x, pair[1]);
            Check.same(pair[0] + " ahead of " + pair[1], Rig.matched(x, "AB"), 1);
        }
        ProfileRights many = Rig.strict();
        for (int i = 1; i <= 60; i++) {
            Rig.guard(many, "*");
        }
        Check.same("of all 60", Rig.matched(many, "A"), 1);
        many.name(1, 'Z');
        Check.same("of the 59 others", Rig.matched(many, "A"), 2);
        many.name(60, 'A');
        Check.same("the last one, more special now", Rig.matched(many, "A"), 60);
    }

    private static void onlyThoseThatFit() {
        Check.term("Of those that fit");
        ProfileRights x = Rig.guarded("ABC");
        Rig.guard(x, "AB%");
        Rig.guard(x, "A*");
        Rig.guard(x, "*");
        Check.same("for ABC", Rig.matched(x, "ABC"), 1);
        Check.same("for ABD", Rig.matched(x, "ABD"), 2);
        Check.same("for ABCD", Rig.matched(x, "ABCD"), 3);
        Check.same("for B", Rig.matched(x, "B"), 4);
        Check.same("for the empty name", Rig.matched(x, ""), 4);
        x.name(1, 'D');
        Check.same("for ABCD, a longer name now", Rig.matched(x, "ABCD"), 1);
        Check.same("for ABC then", Rig.matched(x, "ABC"), 2);
    }
}
