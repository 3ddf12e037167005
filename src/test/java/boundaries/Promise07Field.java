/** Promise 7: how many bytes a FIELD's NAME and its VALUE have. */
public final class Promise07Field {
    private static final int NONE = MailHeads.NONE;

    public static void main(String[] args) {
        Check.part("promise 7");
        sizes();
        noneSuch();
        last();
        Check.done();
    }

    private static void sizes() {
        MailHeads mail = Check.head("A:\nBcd :12\n 3\r\n");
        Check.same("a NAME of one byte", mail.field(0, 0), 1);
        Check.same("an empty VALUE", mail.field(0, 1), 0);
        Check.same("a NAME ahead of a BLANK", mail.field(1, 0), 3);
        Check.same("a VALUE of two lines", mail.field(1, 1), 4);
        Check.same("a NAME of 1499 bytes", Check.head("A".repeat(1499) + ":").field(0, 0), 1499);
        Check.same("a VALUE of 1498 bytes", Check.head("A:" + "a".repeat(1498)).field(0, 1), 1498);
        Check.same("a VALUE of folded lines", Check.head("A:" + "\n ".repeat(749)).field(0, 1), 749);
    }

    private static void noneSuch() {
        MailHeads mail = Check.head("A:1\nB:2");
        int[] fields = {-1, -2, 2, 3, 40, 1 << 30, (1 << 30) + 1, Integer.MIN_VALUE, Integer.MIN_VALUE + 1,
            Integer.MAX_VALUE};
        for (int field : fields) {
            for (int what = -1; what <= 2; what++) {
                Check.same("field(" + field + ", " + what + ")", mail.field(field, what), NONE);
            }
        }
        for (int what : new int[] {-1, -2, 2, 3, Integer.MIN_VALUE, Integer.MAX_VALUE}) {
            Check.same("field(0, " + what + ")", mail.field(0, what), NONE);
            Check.same("field(1, " + what + ")", mail.field(1, what), NONE);
        }
        mail.read();
        Check.same("field(0, 0) of an empty HEAD", mail.field(0, 0), NONE);
        Check.same("field(0, 1) of an empty HEAD", mail.field(0, 1), NONE);
    }

    private static void last() {
        MailHeads mail = Check.head(Check.fields(41));
        Check.same("field(39, 0)", mail.field(39, 0), 3);
        Check.same("field(39, 1)", mail.field(39, 1), 2);
        Check.same("field(40, 0)", mail.field(40, 0), NONE);
        Check.same("field(40, 1)", mail.field(40, 1), NONE);
    }
}
