/** Promise 1: a new object has no tape and no HEAD. */
public final class Promise01NewObject {
    private static final int NONE = MailHeads.NONE;

    public static void main(String[] args) {
        Check.part("promise 1");
        noTape();
        noHead();
        nothingRead();
        ofItsOwn();
        Check.done();
    }

    private static void noTape() {
        Check.same("end(0)", new MailHeads().end(0), 0);
        Check.same("end(1)", new MailHeads().end(1), 1);
        Check.same("end(20)", new MailHeads().end(20), 20);
        Check.same("find()", new MailHeads().find(), NONE);
        Check.same("parameter()", new MailHeads().parameter(), NONE);
        Check.same("read()", new MailHeads().read(), 0);
    }

    private static void noHead() {
        MailHeads mail = new MailHeads();
        Check.same("bad()", mail.bad(), 0);
        for (int what = -1; what < 3; what++) {
            Check.same("field(0, " + what + ")", mail.field(0, what), NONE);
            Check.same("fieldByte(0, " + what + ", 0)", mail.fieldByte(0, what, 0), NONE);
        }
        Check.throwsOutOfBounds("addresses(0)", () -> mail.addresses(0));
        Check.throwsOutOfBounds("identities(0)", () -> mail.identities(0));
        Check.throwsOutOfBounds("date(0)", () -> mail.date(0));
        Check.throwsOutOfBounds("type(0)", () -> mail.type(0));
    }

    private static void nothingRead() {
        MailHeads mail = new MailHeads();
        for (int what = -1; what < 8; what++) {
            Check.same("length(" + what + ", 0)", mail.length(what, 0), NONE);
            Check.same("at(" + what + ", 0, 0)", mail.at(what, 0, 0), NONE);
        }
        Check.same("group(0, 0)", mail.group(0, 0), 0);
        Check.same("group(1, 0)", mail.group(1, 0), 0);
        Check.same("parameterByte(false, 0)", mail.parameterByte(false, 0), NONE);
        Check.same("parameterByte(true, 0)", mail.parameterByte(true, 0), NONE);
    }

    private static void ofItsOwn() {
        MailHeads full = Check.head("A:a@b\nbad");
        full.addresses(0);
        Check.tape(full, "xyz");
        MailHeads mail = new MailHeads();
        Check.same("end(0) beside a full one", mail.end(0), 0);
        Check.same("bad() beside a full one", mail.bad(), 0);
        Check.same("field(0, 0) beside a full one", mail.field(0, 0), NONE);
        Check.same("length(1, 0) beside a full one", mail.length(1, 0), NONE);
        mail.read();
        Check.same("the full one's tape", full.end(0), 3);
        Check.same("the full one's field(0, 1)", full.field(0, 1), 3);
        Check.same("the full one's bad()", full.bad(), 1);
    }
}
