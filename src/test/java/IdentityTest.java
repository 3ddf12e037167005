/** Promises 10, 14 and 15: identities. */
public final class IdentityTest {
    private static final int NONE = MailHeads.NONE;

    public static void main(String[] args) {
        due("", "");
        due(" <a@b> x<c>\t<d>", "a@b|c|d|");
        due("<>", "");
        due("<a b> <c\td> <e>", "e|");
        due("<a<b>>", "a<b|");
        due("> <a> > <b", "a|");
        due("(<a>) \"<b\\>c\" [<d>]", "a|b\\|d|");
        due("<\u0001\u00ff\u007f>", "\u0001\u00ff\u007f|");
        due("<" + "x".repeat(100) + "><" + "y".repeat(101) + "><z>", "x".repeat(100) + "|z|");
        due("<a >< b><c>", "c|");
        folded();
        many();
        outOfBounds();
        Check.done();
    }

    private static void due(String value, String want) {
        Check.same("identities of " + value, Check.identities(value), want);
    }

    private static void folded() {
        MailHeads mail = Check.head("A: <a@b>\r\n <c@d>\nB: <e>\n");
        Check.same("identities over two lines", mail.identities(0), 2);
        Check.same("the second", Check.text(mail, 4, 1), "c@d");
        Check.same("identities again", mail.identities(1), 1);
        Check.same("the first again", Check.text(mail, 4, 0), "e");
        Check.same("the second is gone", mail.length(4, 1), NONE);
    }

    private static void many() {
        MailHeads mail = Check.value("<a>".repeat(499));
        Check.same("499 identities", mail.identities(0), 499);
        Check.same("the last one", Check.text(mail, 4, 498), "a");
    }

    private static void outOfBounds() {
        MailHeads mail = Check.value("<a>");
        mail.identities(0);
        for (int field : new int[] {-1, 1, 1 << 31, Integer.MAX_VALUE}) {
            Check.throwsOutOfBounds("identities(" + field + ")", () -> mail.identities(field));
        }
        Check.same("what was read stays", Check.text(mail, 4, 0), "a");
    }
}
