/** Promise 2: feed puts twenty bytes ready. */
public final class Promise02Feed {
    public static void main(String[] args) {
        Check.part("promise 2");
        order();
        wholeInts();
        anew();
        zeroBehindEnd();
        keptOverOthers();
        Check.done();
    }

    /** What comes to the tape, behind A:, with end(n). */
    private static String told(MailHeads mail, int n) {
        Check.same("end(" + n + ")", mail.end(n), 2 + n);
        Check.same("read()", mail.read(), 1);
        return Check.field(mail, 0, 1);
    }

    private static MailHeads begun() {
        MailHeads mail = new MailHeads();
        Check.tape(mail, "A:");
        return mail;
    }

    private static void order() {
        MailHeads mail = begun();
        mail.feed(0x01020304, 0x05060708, 0x090B0C0D, 0x0E0F1011, 0x12131415);
        Check.same("twenty bytes", told(mail, 20),
            "\u0001\u0002\u0003\u0004\u0005\u0006\u0007\u0008\u0009\u000b\u000c\r\u000e\u000f\u0010\u0011\u0012\u0013"
            + "\u0014\u0015");
    }

    private static void wholeInts() {
        MailHeads mail = begun();
        mail.feed(-1, Integer.MIN_VALUE, Integer.MAX_VALUE, 0, 0x80FF7F01);
        Check.same("the highest and lowest ints", told(mail, 20),
            "\u00ff\u00ff\u00ff\u00ff\u0080\0\0\0\u007f\u00ff\u00ff\u00ff\0\0\0\0\u0080\u00ff\u007f\u0001");
    }

    private static void anew() {
        MailHeads mail = begun();
        mail.feed(-1, -1, -1, -1, -1);
        mail.feed(0x61000000, 0, 0, 0, 0x62);
        Check.same("feed behind feed", told(mail, 20), "a" + "\0".repeat(18) + "b");
    }

    private static void zeroBehindEnd() {
        MailHeads mail = new MailHeads();
        Check.same("0 at first: end(20)", mail.end(20), 20);
        Check.same("0 at first: read()", mail.read(), 0);
        Check.same("0 at first: one line", mail.bad(), 1);
        Check.same("0 behind end(2)", told(begun(), 20), "\0".repeat(20));
        for (int n = 0; n <= 20; n++) {
            mail = begun();
            mail.feed(-1, -1, -1, -1, -1);
            mail.end(n);
            mail.end(20);
            mail.read();
            Check.same("0 behind end(" + n + ")", Check.field(mail, 0, 1), "\u00ff".repeat(n) + "\0".repeat(20));
        }
        mail = begun();
        mail.feed(-1, -1, -1, -1, -1);
        mail.end(21);
        mail.end(-1);
        Check.same("kept behind an end() that answers NONE", told(mail, 20), "\u00ff".repeat(20));
    }

    private static void keptOverOthers() {
        MailHeads mail = Check.head("A:a/b");
        Check.tape(mail, "A");
        Check.feed(mail, "B:12345678901234567x");
        mail.find();
        mail.type(0);
        mail.parameter();
        mail.read();
        Check.same("end(20)", mail.end(20), 20);
        mail.read();
        Check.same("kept over find(), type(), parameter() and read()", Check.field(mail, 0, 1), "12345678901234567x");
    }
}
