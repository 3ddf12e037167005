/** Promise 6: the first FIELD of the name that is on the tape. */
public final class Promise06Find {
    private static final int NONE = MailHeads.NONE;

    public static void main(String[] args) {
        Check.part("promise 6");
        first();
        greatOrSmall();
        whole();
        emptied();
        limits();
        Check.done();
    }

    private static void due(String head, String name, int want) {
        Check.same("find() of " + name + " in " + head, Check.find(Check.head(head), name), want);
    }

    private static void first() {
        due("A:1\nB:2\nA:3", "A", 0);
        due("A:1\nB:2\nb:3", "B", 1);
        due("A:1\nB:2", "C", NONE);
        due("A:C", "C", NONE);
        due("A:1\n C:2", "C", NONE);
        due("bad\nA:1", "A", 0);
        due("A :1", "A", 0);
        due("", "A", NONE);
        due("bad", "bad", NONE);
    }

    private static void greatOrSmall() {
        for (char b = 33; b <= 126; b++) {
            if (b != ':') {
                boolean letter = b >= 'A' && b <= 'Z' || b >= 'a' && b <= 'z';
                String head = "x" + b + ":1";
                due(head, "X" + b, 0);
                due(head, "X" + (char) (b ^ 32), letter ? 0 : NONE);
            }
        }
    }

    private static void whole() {
        due("Abc:1", "ab", NONE);
        due("Abc:1", "abcd", NONE);
        due("Abc:1", "bc", NONE);
        due("Abc:1", "abc:", NONE);
        due("Abc:1", "abc ", NONE);
        due("Abc:1", " abc", NONE);
        due("Abc:1", "abc\0", NONE);
        due("Abc:1", "\u00e1bc", NONE);
        due("A:1", "", NONE);
        due("A:1", "\u00c1", NONE);
        due("A:1", "\u00e1", NONE);
    }

    private static void emptied() {
        MailHeads mail = Check.head("A:1\nbad");
        Check.same("find()", Check.find(mail, "a"), 0);
        Check.same("end(0) behind find()", mail.end(0), 0);
        Check.same("find() of none", Check.find(mail, "b"), NONE);
        Check.same("end(0) behind a find() of none", mail.end(0), 0);
        Check.same("find() of an empty tape", mail.find(), NONE);
        Check.same("find() again", Check.find(mail, "A"), 0);
        Check.same("the HEAD stays", Check.field(mail, 0, 1), "1");
        Check.same("bad() stays", mail.bad(), 1);
        MailHeads none = new MailHeads();
        Check.same("find() ahead of any HEAD", Check.find(none, "a"), NONE);
        Check.same("end(0) behind it", none.end(0), 0);
    }

    private static void limits() {
        due(Check.fields(40), "n39", 39);
        due(Check.fields(41), "n40", NONE);
        MailHeads mail = Check.head("X".repeat(1499) + ":");
        Check.same("find() of 1499 bytes", Check.find(mail, "x".repeat(1499)), 0);
        Check.same("find() of 1498 bytes", Check.find(mail, "x".repeat(1498)), NONE);
        Check.same("find() of 1500 bytes", Check.find(Check.head("X:1"), "x".repeat(1500)), NONE);
    }
}
