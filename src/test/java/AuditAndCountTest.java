/** Promises 17 and 21, sentence by sentence. */
public final class AuditAndCountTest {
    private static final int NONE = ProfileRights.NONE;

    private AuditAndCountTest() {
    }

    public static void main(String[] args) {
        promise17();
        promise21();
        Check.end("AuditAndCountTest");
    }

    private static void promise17() {
        whatIsWritten();
        whatIsNotWritten();
        cellsOfRows();
        auditIsFull();
        othersAreNone();
    }

    private static void row(String what, ProfileRights x, int i, int... cells) {
        Check.same(what + ", rows", x.count(3), i + 1);
        for (int k = 0; k < cells.length; k++) {
            Check.same(what + ", cell " + k, x.audit(i, k), cells[k]);
        }
        Check.same(what + ", the next row", x.audit(i + 1, 0), NONE);
    }

    private static void whatIsWritten() {
        Check.term("Each no, each warning, and each yes by a profile that audits successes is written");
        ProfileRights x = Rig.guarded("A");
        Rig.may(x, 2, 3, "A");
        row("a no", x, 0, 2, 0, 3, 0, 1);
        x.universal(1, 2, 2);
        Rig.may(x, 2, 3, "A");
        row("a no by one that audits", x, 1, 2, 0, 3, 0, 1);
        Rig.may(x, 1, 2, "A");
        row("an audited yes", x, 2, 1, 0, 2, 1, 1);
        x.universal(1, 2, 1);
        Rig.may(x, 1, 4, "A");
        row("a warning", x, 3, 1, 0, 4, 2, 1);
        x.universal(1, 2, 3);
        Rig.may(x, 1, 3, "A");
        row("a warning by one that audits", x, 4, 1, 0, 3, 2, 1);
        Rig.may(x, 2, 1, "B");
        row("a no by none", x, 5, 2, 0, 1, 0, 0);
        x.revoke(1, true);
        Rig.may(x, 1, 1, "A");
        row("a revoked one's no", x, 6, 1, 0, 1, 0, 0);
        x.may(1, 7, 4, 0);
        row("in a class that is off", x, 7, 1, 7, 4, 0, 0);
    }

    private static void whatIsNotWritten() {
        Check.term("is written into the AUDIT (and no other)");
        ProfileRights x = Rig.guarded("A");
        x.universal(1, 2, 0);
        Rig.may(x, 1, 2, "A");
        Check.same("a yes without a mark", x.count(3), 0);
        x.universal(1, 2, 1);
        Rig.may(x, 1, 2, "A");
        Check.same("a yes by one that warns", x.count(3), 0);
        x.universal(1, 2, 7);
        Rig.may(x, 1, 2, "A");
        Check.same("a yes by a global one", x.count(3), 0);
        x.mode(0, 1);
        Rig.may(x, 1, 2, "B");
        Check.same("a yes by none", x.count(3), 0);
        x.mode(0, 0);
        Rig.may(x, 1, 3, "A");
        Check.same("a yes where the class is off", x.count(3), 0);
        Check.refused("a refused may", () -> x.may(1, 0, 5, 0));
        Check.same("behind a refused may", x.count(3), 0);
        Check.same("the first row", x.audit(0, 0), NONE);
    }

    private static void cellsOfRows() {
        Check.promise(17, "what = 0 the user, 1 the class, 2 the level, 3 the answer, 4 the profile");
        ProfileRights x = Rig.of(1, 40);
        for (int p = 1; p <= 60; p++) {
            x.profile(7, 40);
        }
        x.mode(7, 1);
        x.name(60, '*');
        x.name(60, 'Z');
        x.universal(60, 3, 3);
        x.ask('Z');
        x.may(40, 7, 4, 0);
        row("the last of all", x, 0, 40, 7, 4, 2, 60);
        x.ask('Z');
        x.may(1, 7, 1, 0);
        row("the next row", x, 1, 1, 7, 1, 1, 60);
        x.universal(60, 0, 0);
        x.revoke(40, true);
        x.move(1, 0);
        for (int k = 0; k < 5; k++) {
            Check.same("later calls leave cell " + k, x.audit(0, k), new int[] {40, 7, 4, 2, 60}[k]);
        }
    }

    private static void auditIsFull() {
        Check.promise(17, "(the 201st and later ones are not kept)");
        ProfileRights x = Rig.strict();
        for (int i = 0; i < 199; i++) {
            x.may(1, 0, 1 + i % 4, i);
        }
        Check.same("the 200th before it is written", x.audit(199, 0), NONE);
        x.may(2, 0, 4, 0);
        int[] last = {2, 0, 4, 0, 0};
        for (int k = 0; k < 5; k++) {
            Check.same("the 200th, cell " + k, x.audit(199, k), last[k]);
        }
        for (int i = 201; i <= 260; i++) {
            x.may(2, 0, 3, 0);
        }
        for (int k = 0; k < 5; k++) {
            Check.same("the 200th stays, cell " + k, x.audit(199, k), last[k]);
            Check.same("the 201st, cell " + k, x.audit(200, k), NONE);
            Check.same("the 260th, cell " + k, x.audit(259, k), NONE);
        }
        for (int i = 0; i < 60; i++) {
            Check.same("user of row " + i, x.audit(i, 0), 1);
            Check.same("level of row " + i, x.audit(i, 2), 1 + i % 4);
        }
        Check.same("all that were written", x.count(3), 260);
    }

    private static void othersAreNone() {
        Check.promise(17, "NONE for others");
        ProfileRights x = Rig.strict();
        for (int what = 0; what <= 4; what++) {
            Check.same("an empty audit, cell " + what, x.audit(0, what), NONE);
        }
        x.may(1, 0, 1, 0);
        x.may(1, 0, 1, 0);
        int[] far = {256, -256, 65536, Integer.MIN_VALUE, Integer.MAX_VALUE, 858993460};
        for (int number : far) {
            Check.same("row " + number, x.audit(number, 0), NONE);
            Check.same("cell " + number, x.audit(0, number), NONE);
            Check.same("row and cell " + number, x.audit(number, number), NONE);
        }
        Check.same("row 2 of two", x.audit(2, 0), NONE);
        Check.same("row -1", x.audit(-1, 0), NONE);
        Check.same("row -1, cell 5", x.audit(-1, 5), NONE);
        Check.same("cell 5", x.audit(0, 5), NONE);
        Check.same("cell -1", x.audit(0, -1), NONE);
        Check.same("cell -1 of the next row", x.audit(1, -1), NONE);
        Check.same("the last cell of the last row", x.audit(1, 4), 0);
    }

    private static void promise21() {
        counts();
        countOfAuditRows();
        countOfRevokedUsers();
        countOfEntries();
        countOfOthers();
    }

    private static void counts() {
        Check.promise(21, "what = 0 groups, 1 users, 2 profiles");
        ProfileRights x = Rig.of(20, 40);
        for (int i = 1; i <= 60; i++) {
            x.profile(0, 1);
        }
        Check.same("groups", x.count(0), 20);
        Check.same("users", x.count(1), 40);
        Check.same("profiles", x.count(2), 60);
        Check.full("one group more", () -> x.group(0));
        Check.full("one user more", () -> x.user(1));
        Check.full("one profile more", () -> x.profile(0, 1));
        x.move(1, 2);
        Check.same("groups still", x.count(0), 20);
        Check.same("users still", x.count(1), 40);
        Check.same("profiles still", x.count(2), 60);
    }

    private static void countOfAuditRows() {
        Check.promise(21, "3 rows of the audit (all that were written)");
        ProfileRights x = Rig.strict();
        for (int i = 1; i <= 240; i++) {
            x.may(1, 0, 1, 0);
            Check.same("rows", x.count(3), i);
        }
    }

    private static void countOfRevokedUsers() {
        Check.promise(21, "4 revoked users");
        ProfileRights x = Rig.of(1, 40);
        for (int user = 1; user <= 40; user++) {
            x.revoke(user, true);
            Check.same("revoked by the call", x.count(4), user);
        }
        x.revoke(40, true);
        Check.same("revoked twice", x.count(4), 40);
        for (int user = 1; user <= 40; user++) {
            x.revoke(user, false);
            Check.same("not any more", x.count(4), 40 - user);
        }
        for (int i = 1; i <= 3; i++) {
            x.pass(40, false);
            Check.same("wrong passwords: " + i, x.count(4), i / 3);
        }
        x.pass(40, false);
        Check.same("a wrong one more", x.count(4), 1);
    }

    private static void countOfEntries() {
        Check.promise(21, "5 entries of all lists");
        ProfileRights x = Rig.of(2, 8);
        int[] whos = {1, 2, 3, 4, 5, 6, 7, 8, -1, -2};
        int due = 0;
        for (int p = 1; p <= 12; p++) {
            x.profile(0, 1);
            for (int who : whos) {
                x.permit(p, who, 0);
                due++;
                Check.same("entries", x.count(5), due);
            }
        }
        x.permit(1, 1, 4);
        Check.same("another level", x.count(5), 120);
        x.condition(1, 1, 5, 0);
        Check.same("closed ones count", x.count(5), 120);
        x.permit(12, -2, NONE);
        Check.same("one gone", x.count(5), 119);
        x.permit(12, -2, NONE);
        Check.same("a missing one gone", x.count(5), 119);
    }

    private static void countOfOthers() {
        Check.promise(21, "NONE for others");
        ProfileRights x = Rig.guarded("A");
        x.permit(1, 1, 1);
        x.may(1, 0, 1, 0);
        x.revoke(1, true);
        int[] others = {-1, 6, 7, 256, -256, 65536, Integer.MIN_VALUE, Integer.MAX_VALUE};
        for (int what : others) {
            Check.same("count " + what, x.count(what), NONE);
        }
        Check.same("the first", x.count(0), 1);
        Check.same("the last", x.count(5), 1);
    }
}
