/** Promise 4: the tape is the HEAD. */
public final class Promise04Read {
    private static final int NONE = MailHeads.NONE;

    public static void main(String[] args) {
        Check.part("promise 4");
        counts();
        emptied();
        anew();
        stays();
        Check.done();
    }

    private static int count(String head) {
        MailHeads mail = new MailHeads();
        Check.tape(mail, head);
        return mail.read();
    }

    private static void counts() {
        Check.same("read() of nothing", count(""), 0);
        Check.same("read() of BAD lines", count("a\n\n b"), 0);
        Check.same("read() of one", count("A:"), 1);
        Check.same("read() of one and folded lines", count("A:\n B:\n C:"), 1);
        Check.same("read() of 39", count(Check.fields(39)), 39);
        Check.same("read() of 40", count(Check.fields(40)), 40);
        Check.same("read() of 41", count(Check.fields(41)), 40);
        Check.same("read() of 500", count("A:\n".repeat(500)), 40);
        Check.same("read() of 1500 bytes in one", count("A:" + "a".repeat(1498)), 1);
        Check.same("read() of 1500 ends", count("\n".repeat(1500)), 0);
    }

    private static void emptied() {
        MailHeads mail = new MailHeads();
        Check.tape(mail, "A:1\nB:2");
        Check.same("read()", mail.read(), 2);
        Check.same("end(0) behind read()", mail.end(0), 0);
        Check.same("read() again: the tape is empty", mail.read(), 0);
        Check.same("field(0, 0) of an empty HEAD", mail.field(0, 0), NONE);
        Check.same("find() in an empty HEAD", Check.find(mail, "A"), NONE);
        Check.throwsOutOfBounds("addresses(0) of an empty HEAD", () -> mail.addresses(0));
    }

    private static void anew() {
        MailHeads mail = Check.head(Check.fields(41));
        Check.tape(mail, "Long:name\n and folded\nB:2");
        Check.same("read() behind one of 41", mail.read(), 2);
        Check.same("its VALUE", Check.field(mail, 0, 1), "name and folded");
        Check.same("no third", mail.field(2, 0), NONE);
        Check.tape(mail, " x\nC:3");
        Check.same("read() of a folded line first", mail.read(), 1);
        Check.same("its bad()", mail.bad(), 1);
        Check.same("its NAME", Check.field(mail, 0, 0), "C");
        Check.same("its VALUE", Check.field(mail, 0, 1), "3");
    }

    private static void stays() {
        MailHeads mail = Check.head("A:g:t<l@d>,.\nB:<i>\nC:a/b;n*=u'l'v");
        mail.addresses(0);
        mail.identities(1);
        mail.type(2);
        for (int round = 0; round < 2; round++) {
            Check.same("the TITLE stays", Check.text(mail, 0, 0), "t");
            Check.same("the LOCAL stays", Check.text(mail, 1, 0), "l");
            Check.same("the DOMAIN stays", Check.text(mail, 2, 0), "d");
            Check.same("the GROUP's NAME stays", Check.text(mail, 3, 0), "g");
            Check.same("the IDENTITY stays", Check.text(mail, 4, 0), "i");
            Check.same("the TYPE's first part stays", Check.text(mail, 5, 0), "a");
            Check.same("the TYPE's second part stays", Check.text(mail, 6, 0), "b");
            Check.same("the GROUPS stay", mail.group(0, 0), 1);
            Check.same("the BAD ones stay", mail.group(1, 0), 1);
            Check.same("the MAILBOX's GROUP stays", mail.group(2, 0), 0);
            Check.same("the parameter stays", Check.parameter(mail, "n"), "v");
            Check.same("its CHARSET stays", Check.inHand(mail, true), "u");
            Check.tape(mail, round == 0 ? "A:x@y <z> q/r;n=w" : "");
            mail.read();
        }
        Check.same("the last LOCAL stays over two", Check.text(mail, 1, 0), "l");
    }
}
