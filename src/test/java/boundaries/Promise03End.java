/** Promise 3: the first n of the bytes that are ready come to the tape. */
public final class Promise03End {
    private static final int NONE = MailHeads.NONE;

    public static void main(String[] args) {
        Check.part("promise 3");
        firstOnes();
        wrongNumbers();
        full();
        refused();
        emptied();
        Check.done();
    }

    private static void firstOnes() {
        String bytes = "abcdefghijklmnopqrst";
        for (int n = 0; n <= 20; n++) {
            MailHeads mail = new MailHeads();
            Check.tape(mail, "A:");
            Check.feed(mail, bytes);
            Check.same("end(" + n + ")", mail.end(n), 2 + n);
            mail.read();
            Check.same("behind end(" + n + ")", Check.field(mail, 0, 1), bytes.substring(0, n));
        }
    }

    private static void wrongNumbers() {
        MailHeads mail = new MailHeads();
        Check.tape(mail, "A:");
        Check.feed(mail, "xy");
        for (int n : new int[] {-1, -2, -20, Integer.MIN_VALUE, 21, 22, 1498, Integer.MAX_VALUE, Integer.MAX_VALUE - 1}) {
            Check.same("end(" + n + ")", mail.end(n), NONE);
        }
        Check.same("end(2): nothing came, the bytes are still ready", mail.end(2), 4);
        mail.read();
        Check.same("the VALUE", Check.field(mail, 0, 1), "xy");
    }

    private static MailHeads filled(int size) {
        MailHeads mail = new MailHeads();
        Check.tape(mail, "A:" + "a".repeat(size - 2));
        return mail;
    }

    private static void full() {
        Check.same("end(20) to 1500", filled(1480).end(20), 1500);
        Check.same("end(19) to 1500", filled(1481).end(19), 1500);
        Check.same("end(1) to 1500", filled(1499).end(1), 1500);
        Check.same("end(20) to 1501", filled(1481).end(20), NONE);
        Check.same("end(2) to 1501", filled(1499).end(2), NONE);
        MailHeads mail = filled(1500);
        Check.same("end(0) at 1500", mail.end(0), 1500);
        Check.same("end(1) at 1500", mail.end(1), NONE);
        Check.same("end(20) at 1500", mail.end(20), NONE);
        Check.same("end(-1) at 1500", mail.end(-1), NONE);
        Check.same("end(max) at 1500", mail.end(Integer.MAX_VALUE), NONE);
        Check.same("read() of 1500", mail.read(), 1);
        Check.same("its VALUE", mail.field(0, 1), 1498);
    }

    private static void refused() {
        MailHeads mail = filled(1498);
        Check.feed(mail, "xyz");
        Check.same("end(3) to 1501", mail.end(3), NONE);
        Check.same("end(2) to 1500: the bytes are still ready", mail.end(2), 1500);
        mail.read();
        Check.same("the VALUE's size", mail.field(0, 1), 1498);
        Check.same("the VALUE's byte 1495", mail.fieldByte(0, 1, 1495), 'a');
        Check.same("the VALUE's byte 1496", mail.fieldByte(0, 1, 1496), 'x');
        Check.same("the VALUE's byte 1497", mail.fieldByte(0, 1, 1497), 'y');
    }

    private static void emptied() {
        MailHeads mail = filled(1500);
        mail.read();
        Check.same("end(20) behind read()", mail.end(20), 20);
        mail.find();
        Check.same("end(20) behind find()", mail.end(20), 20);
        mail.parameter();
        Check.same("end(20) behind parameter()", mail.end(20), 20);
        Check.tape(mail, "a".repeat(1480));
        Check.same("end(0): full again", mail.end(0), 1500);
        Check.same("end(1): full again", mail.end(1), NONE);
    }
}
