/** Promise 8: byte k of a FIELD's NAME or VALUE. */
public final class Promise08FieldByte {
    private static final int NONE = MailHeads.NONE;

    public static void main(String[] args) {
        Check.part("promise 8");
        ends();
        anyByte();
        noneSuch();
        Check.done();
    }

    private static void ends() {
        MailHeads mail = Check.head("Ab :cd\n e\nF:\nG:h");
        Check.same("the NAME's first byte", mail.fieldByte(0, 0, 0), 'A');
        Check.same("the NAME's last byte", mail.fieldByte(0, 0, 1), 'b');
        Check.same("behind the NAME", mail.fieldByte(0, 0, 2), NONE);
        Check.same("the VALUE's first byte", mail.fieldByte(0, 1, 0), 'c');
        Check.same("the folded line's BLANK", mail.fieldByte(0, 1, 2), ' ');
        Check.same("the VALUE's last byte", mail.fieldByte(0, 1, 3), 'e');
        Check.same("behind the VALUE", mail.fieldByte(0, 1, 4), NONE);
        Check.same("an empty VALUE", mail.fieldByte(1, 1, 0), NONE);
        Check.same("the last VALUE", mail.fieldByte(2, 1, 0), 'h');
        Check.same("behind the last VALUE", mail.fieldByte(2, 1, 1), NONE);
        for (int k : new int[] {-1, -2, Integer.MIN_VALUE, Integer.MAX_VALUE, 1500, 1 << 30}) {
            for (int field = 0; field < 3; field++) {
                Check.same("fieldByte(" + field + ", 0, " + k + ")", mail.fieldByte(field, 0, k), NONE);
                Check.same("fieldByte(" + field + ", 1, " + k + ")", mail.fieldByte(field, 1, k), NONE);
            }
        }
        mail = Check.head("A:" + "a".repeat(1497) + "z");
        Check.same("byte 1497", mail.fieldByte(0, 1, 1497), 'z');
        Check.same("byte 1498", mail.fieldByte(0, 1, 1498), NONE);
    }

    private static void anyByte() {
        for (char b = 0; b <= 255; b++) {
            if (b != 10) {
                Check.same("byte " + (int) b, Check.head("A:" + b + ".").fieldByte(0, 1, 0), b);
            }
        }
    }

    private static void noneSuch() {
        MailHeads mail = Check.head("A:1\nB:2");
        for (int field : new int[] {-1, 2, 1 << 30, Integer.MIN_VALUE, Integer.MAX_VALUE}) {
            Check.same("fieldByte(" + field + ", 0, 0)", mail.fieldByte(field, 0, 0), NONE);
            Check.same("fieldByte(" + field + ", 1, 0)", mail.fieldByte(field, 1, 0), NONE);
        }
        for (int what : new int[] {-1, 2, 3, Integer.MIN_VALUE, Integer.MAX_VALUE}) {
            Check.same("fieldByte(0, " + what + ", 0)", mail.fieldByte(0, what, 0), NONE);
            Check.same("fieldByte(1, " + what + ", 0)", mail.fieldByte(1, what, 0), NONE);
        }
        mail.read();
        Check.same("fieldByte(0, 0, 0) of an empty HEAD", mail.fieldByte(0, 0, 0), NONE);
    }
}
