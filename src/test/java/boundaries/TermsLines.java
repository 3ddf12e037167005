/** Boundary cases of the words ahead of the promises: HEAD, LINES, FIELD. */
public final class TermsLines {
    public static void main(String[] args) {
        Check.part("the words ahead, calls");
        calls();
        Check.part("the words ahead, HEAD");
        head();
        Check.part("the words ahead, LINES");
        lines();
        Check.part("the words ahead, NAME");
        names();
        anyByteAsName();
        anyByteBehindName();
        Check.part("the words ahead, VALUE");
        values();
        Check.part("the words ahead, BAD");
        badLines();
        Check.part("the words ahead, 40 FIELDS");
        fields();
        Check.done();
    }

    private static void due(String head, String want) {
        Check.same("lines of " + head, Check.lines(head), want);
    }

    private static void calls() {
        MailHeads mail = Check.value("1");
        for (int call = 4; call < 512; call++) {
            mail.bad();
        }
        Check.same("the 512th call", mail.fieldByte(0, 1, 0), '1');
    }

    private static void head() {
        due("", "0");
        MailHeads mail = Check.head("X:" + "a".repeat(1497) + "z");
        Check.same("the VALUE of a HEAD of 1500 bytes", mail.field(0, 1), 1498);
        Check.same("the HEAD's byte 1500", mail.fieldByte(0, 1, 1497), 'z');
        mail = Check.head("X".repeat(1499) + ":");
        Check.same("a NAME of 1499 bytes", mail.field(0, 0), 1499);
        Check.same("its VALUE", mail.field(0, 1), 0);
        mail = Check.head("X".repeat(1500));
        Check.same("1500 bytes without a :", mail.bad(), 1);
    }

    private static void lines() {
        due("\n", "1");
        due("\r\n", "1");
        due("\n\n", "2");
        due("\r\n\r\n", "2");
        due("\r", "1");
        due("\r\r\n", "1");
        due("A:1", "A=1|0");
        due("A:1\n", "A=1|0");
        due("A:1\r\n", "A=1|0");
        due("A:1\n\n", "A=1|1");
        due("A:1\nB:2", "A=1|B=2|0");
        due("A:1\r", "A=1\r|0");
        due("A:1\r\r\n", "A=1\r|0");
        due("A:\r1\r2\n", "A=\r1\r2|0");
        due("A:1\n\r\nB:2", "A=1|B=2|1");
        due("A:1\r\n b\r\n c\r", "A=1 b c\r|0");
        due("A:\r\n", "A=|0");
        due("A:\r\rB:1", "A=\r\rB:1|0");
        due("A:1\n\rB:2", "A=1|1");
    }

    private static void names() {
        due(":", "1");
        due(":1", "1");
        due("A:", "A=|0");
        due("A :", "A=|0");
        due("A\t:", "A=|0");
        due("A \t \t:1", "A=1|0");
        due("A", "1");
        due("A ", "1");
        due("A b:1", "1");
        due("A b :1", "1");
        due("A::", "A=:|0");
        due("A :B:", "A=B:|0");
        due("A\n:1", "2");
        due("A \n:1", "2");
        due("A\n :1", "2");
        due(":1\nA", "2");
        due(":1\nA ", "2");
        due("!\"#$%&'()*+,-./:1", "!\"#$%&'()*+,-./=1|0");
        due(";<=>?@[\\]^_`{|}~:1", ";<=>?@[\\]^_`{|}~=1|0");
    }

    private static void anyByteAsName() {
        for (char b = 0; b <= 255; b++) {
            boolean is = b >= 33 && b <= 126 && b != ':';
            due(b + ":x", is ? b + "=x|0" : b == 10 ? "2" : "1");
        }
    }

    private static void anyByteBehindName() {
        for (char b = 0; b <= 255; b++) {
            boolean is = b >= 33 && b <= 126 && b != ':';
            boolean ended = b == 32 || b == 9;
            String want = is ? "A" + b + "=x|0" : ended ? "A=x|0" : b == ':' ? "A=:x|0" : b == 10 ? "2" : "1";
            due("A" + b + ":x", want);
        }
    }

    private static void values() {
        due("A: ", "A= |0");
        due("A:\n ", "A= |0");
        due("A:\n\t", "A=\t|0");
        due("A:\n \r\n\t\n", "A= \t|0");
        due("A:1\n  2\n\t3 ", "A=1  2\t3 |0");
        due("A:1\n B:2", "A=1 B:2|0");
        due("A:1\n :", "A=1 :|0");
        due("A:1\nB:2\n 3", "A=1|B=2 3|0");
        for (char b = 0; b <= 255; b++) {
            if (b != 10) {
                due("A:" + b + "c", "A=" + b + "c|0");
                due("A:\n " + b + "c", "A= " + b + "c|0");
            }
        }
    }

    private static void badLines() {
        due(" ", "1");
        due("\t\n \n", "2");
        due(" A:1", "1");
        due(" A:1\nB:2", "B=2|1");
        due("A:1\n\n 2", "A=1|2");
        due("A:1\nbad\n 2\n\t3\nB:4\n 5", "A=1|B=4 5|3");
        due("A:1\nbad\nB:2", "A=1|B=2|1");
        due("bad", "1");
        due("bad\n", "1");
        due("\u0001:1", "1");
    }

    private static void fields() {
        String forty = Check.fields(40);
        fields("39", Check.fields(39), 39, 0, "38");
        fields("40", forty, 40, 0, "39");
        fields("41", Check.fields(41), 40, 0, "39");
        fields("100", "A:\n".repeat(39) + "B:b\n" + "C:c\n".repeat(60), 40, 0, "b");
        fields("40, a line folded", forty + " x\n", 40, 0, "39 x");
        fields("40, BAD ones behind", forty + "bad\n x\n\n", 40, 3, "39");
        fields("41, BAD ones ahead of the 41st", forty + "bad\n x\nM:1\n", 40, 2, "39");
        fields("41, BAD ones behind the 41st", forty + "M:1\nbad\n x\n\n", 40, 0, "39");
        fields("41, the 41st is folded", forty + "M:1\n x\n", 40, 0, "39");
        fields("41, folded on both sides", forty + " x\nM:1\n y\nbad\n z\nL:2\n w", 40, 0, "39 x");
        fields("41, BAD ones on both sides", "bad\n" + forty + "bad\nM:1\nbad\n", 40, 2, "39");
    }

    private static void fields(String which, String head, int count, int bad, String last) {
        MailHeads mail = new MailHeads();
        Check.tape(mail, head);
        Check.same("read() of " + which, mail.read(), count);
        Check.same("bad() of " + which, mail.bad(), bad);
        Check.same("the last VALUE of " + which, Check.field(mail, count - 1, 1), last);
        Check.same("the NAME behind it of " + which, mail.field(count, 0), MailHeads.NONE);
        Check.same("the VALUE behind it of " + which, mail.field(count, 1), MailHeads.NONE);
    }
}
