/** Promises 1 to 8: the tape, the lines and the fields. */
public final class HeadTest {
    private static final int NONE = MailHeads.NONE;

    public static void main(String[] args) {
        newObject();
        feedAndEnd();
        tapeLimit();
        lines();
        badLines();
        names();
        fieldLimit();
        find();
        fieldBytes();
        Check.done();
    }

    private static void newObject() {
        MailHeads mail = new MailHeads();
        Check.same("end(0) of a new object", mail.end(0), 0);
        Check.same("bad() of a new object", mail.bad(), 0);
        Check.same("find() of a new object", mail.find(), NONE);
        Check.same("field(0, 0) of a new object", mail.field(0, 0), NONE);
        Check.same("fieldByte(0, 0, 0) of a new object", mail.fieldByte(0, 0, 0), NONE);
        Check.same("group(0, 0) of a new object", mail.group(0, 0), 0);
        Check.same("group(1, 0) of a new object", mail.group(1, 0), 0);
        Check.same("group(2, 0) of a new object", mail.group(2, 0), NONE);
        for (int what = -1; what < 9; what++) {
            Check.same("length of a new object, what " + what, mail.length(what, 0), NONE);
            Check.same("at of a new object, what " + what, mail.at(what, 0, 0), NONE);
        }
        Check.same("parameter() of a new object", mail.parameter(), NONE);
        Check.same("parameterByte of a new object", mail.parameterByte(false, 0), NONE);
        Check.same("parameterByte of a new object, charset", mail.parameterByte(true, 0), NONE);
        Check.same("read() of a new object", mail.read(), 0);
    }

    private static void feedAndEnd() {
        MailHeads mail = new MailHeads();
        mail.feed(0x413A8001, 0xFF020304, 0x05060708, 0x090B0C0D, 0x0E0F1011);
        Check.same("end(-1)", mail.end(-1), NONE);
        Check.same("end(21)", mail.end(21), NONE);
        Check.same("end(min)", mail.end(Integer.MIN_VALUE), NONE);
        Check.same("end(max)", mail.end(Integer.MAX_VALUE), NONE);
        Check.same("end(20) behind refused ones", mail.end(20), 20);
        Check.same("end(20): the bytes are 0 again", mail.end(20), 40);
        mail.feed(0x01020304, 0, 0, 0, 0);
        mail.feed(0x61626364, 0, 0, 0, 0);
        Check.same("end(0)", mail.end(0), 40);
        Check.same("end(4): the bytes are 0 behind end(0), too", mail.end(4), 44);
        Check.same("read()", mail.read(), 1);
        Check.same("value", Check.field(mail, 0, 1),
            "\u0080\u0001\u00ff\u0002\u0003\u0004\u0005\u0006\u0007\u0008\u0009\u000b\u000c\r"
            + "\u000e\u000f\u0010\u0011" + "\0".repeat(24));
        Check.same("end(0): the tape is empty behind read()", mail.end(0), 0);
    }

    private static void tapeLimit() {
        MailHeads mail = new MailHeads();
        for (int i = 0; i < 74; i++) {
            mail.end(20);
        }
        Check.same("end(19) to 1499", mail.end(19), 1499);
        mail.feed(0x61620000, 0, 0, 0, 0);
        Check.same("end(2) beyond 1500", mail.end(2), NONE);
        Check.same("end(1) to 1500", mail.end(1), 1500);
        Check.same("end(1) beyond 1500", mail.end(1), NONE);
        Check.same("end(0) at 1500", mail.end(0), 1500);
        Check.same("read() of 1500 bytes", mail.read(), 0);
        Check.same("bad() of 1500 bytes", mail.bad(), 1);
        mail = Check.head("A:" + "x".repeat(1498));
        Check.same("field(0, 1) of 1500 bytes", mail.field(0, 1), 1498);
    }

    private static void lines() {
        MailHeads mail = Check.head("A: 1\r\n\t 2\r\r\n \nB:\n \r\n3\r:4\nC:5\r");
        Check.same("fields", mail.field(2, 0), 1);
        Check.same("A", Check.field(mail, 0, 1), " 1\t 2\r ");
        Check.same("B", Check.field(mail, 1, 1), " ");
        Check.same("C keeps the last 13", Check.field(mail, 2, 1), "5\r");
        Check.same("bad: 13 is not in a name", mail.bad(), 1);
        Check.same("lines of none but breaks", Check.head("\n\r\n\n").bad(), 3);
        Check.same("an empty value", Check.field(Check.head("A:"), 0, 1), "");
        Check.same("an empty value, folded", Check.field(Check.head("A:\n x\n"), 0, 1), " x");
    }

    private static void badLines() {
        Check.same("a blank line ahead of any field", Check.head(" a\n\tb\nA:1").bad(), 2);
        MailHeads mail = Check.head("A:1\nbad\n x\n\ty:z\nB:2\n c\nworse");
        Check.same("bad lines and those folded behind them", mail.bad(), 4);
        Check.same("A", Check.field(mail, 0, 1), "1");
        Check.same("B", Check.field(mail, 1, 1), "2 c");
        mail.read();
        Check.same("bad() behind an empty head", mail.bad(), 0);
    }

    private static void names() {
        MailHeads mail = Check.head("!~ \t :x\nA b:c\n:d\n\u00e9:e\n\u007f:f\n \t:g\nK::h");
        Check.same("a name, then blanks", Check.field(mail, 0, 0), "!~");
        Check.same("its value", Check.field(mail, 0, 1), "x");
        Check.same("a value that begins with :", Check.field(mail, 1, 1), ":h");
        Check.same("no third field", mail.field(2, 0), NONE);
        Check.same("bad", mail.bad(), 5);
    }

    private static void fieldLimit() {
        StringBuilder head = new StringBuilder();
        for (int i = 0; i < 40; i++) {
            head.append("N").append(i).append(":").append(i).append("\n");
        }
        head.append(" more\nbad\n bad\n");
        MailHeads mail = new MailHeads();
        Check.tape(mail, head + "M:41\n m\nbad\n\n");
        Check.same("read() of 41 fields", mail.read(), 40);
        Check.same("bad lines ahead of the 41st", mail.bad(), 2);
        Check.same("the 40th", Check.field(mail, 39, 1), "39 more");
        Check.same("the 41st", mail.field(40, 0), NONE);
        Check.same("find the 41st", Check.find(mail, "M"), NONE);
        Check.tape(mail, head.toString().replace("\nbad\n bad\n", "\nM:41\n m\nA:1"));
        mail.read();
        Check.same("the 40th, just ahead of the 41st", Check.field(mail, 39, 1), "39 more");
    }

    private static void find() {
        MailHeads mail = Check.head("Abc-[:1\naBC-{:2\nabc-[:3\n");
        Check.same("find, great or small", Check.find(mail, "ABC-["), 0);
        Check.same("find: [ is not {", Check.find(mail, "ABC-{"), 1);
        Check.same("end(0) behind find()", mail.end(0), 0);
        Check.same("find of a part", Check.find(mail, "ab"), NONE);
        Check.same("end(0) behind a find() of nothing", mail.end(0), 0);
        Check.same("find of more", Check.find(mail, "abc-[ "), NONE);
        Check.same("find of nothing", mail.find(), NONE);
        mail = Check.head("@AZ[`az{:1");
        Check.same("find, the letters' ends", Check.find(mail, "@az[`AZ{"), 0);
        Check.same("find: ` is not @", Check.find(mail, "`az[`az{"), NONE);
        Check.same("find: [ is not {, at the end", Check.find(mail, "@az[`az["), NONE);
    }

    private static void fieldBytes() {
        MailHeads mail = Check.head("Ab:\u00ff\u0000c");
        Check.same("field(0, 0)", mail.field(0, 0), 2);
        Check.same("field(0, 1)", mail.field(0, 1), 3);
        Check.same("fieldByte(0, 0, 1)", mail.fieldByte(0, 0, 1), 'b');
        Check.same("fieldByte(0, 0, 2)", mail.fieldByte(0, 0, 2), NONE);
        Check.same("fieldByte(0, 1, 0)", mail.fieldByte(0, 1, 0), 255);
        Check.same("fieldByte(0, 1, 1)", mail.fieldByte(0, 1, 1), 0);
        int[] wrong = {-1, 1, 2, 1 << 30, 1 << 31, Integer.MAX_VALUE};
        for (int field : wrong) {
            for (int what = 0; what < 2; what++) {
                Check.same("field(" + field + ")", mail.field(field, what), NONE);
                Check.same("fieldByte(" + field + ")", mail.fieldByte(field, what, 0), NONE);
            }
        }
        for (int what : new int[] {-1, 2, Integer.MIN_VALUE, Integer.MAX_VALUE}) {
            Check.same("field(0, " + what + ")", mail.field(0, what), NONE);
            Check.same("fieldByte(0, " + what + ", 0)", mail.fieldByte(0, what, 0), NONE);
        }
        Check.same("fieldByte(0, 0, max)", mail.fieldByte(0, 0, Integer.MAX_VALUE), NONE);
        Check.same("fieldByte(0, 0, min)", mail.fieldByte(0, 0, Integer.MIN_VALUE), NONE);
    }
}
