/** Promise 5: how many lines were BAD. */
public final class Promise05Bad {
    public static void main(String[] args) {
        Check.part("promise 5");
        counts();
        ofTheLastHead();
        Check.done();
    }

    private static void due(String which, String head, int want) {
        Check.same("bad() of " + which, Check.head(head).bad(), want);
    }

    private static void counts() {
        Check.same("bad() of a new object", new MailHeads().bad(), 0);
        due("nothing", "", 0);
        due("one good line", "A:1", 0);
        due("one good line that is ended", "A:1\r\n", 0);
        due("an empty line", "\n", 1);
        due("a line that the HEAD ends", "a", 1);
        due("1500 lines", "\n".repeat(1500), 1500);
        due("750 lines", "\r\n".repeat(750), 750);
        due("one line of 1500 bytes", "a".repeat(1500), 1);
        due("folded lines behind BAD ones", "a\n b\n\tc\nA:1\n d\nb\n e", 5);
        due("lines behind the 40th", Check.fields(40) + "a\n b\n", 2);
        due("lines behind the 41st", Check.fields(41) + "a\n b\n", 0);
        due("lines on all sides of the 41st", "a\n" + Check.fields(40) + "b\nM:1\n c\nd\nL:1\ne\n", 2);
    }

    private static void ofTheLastHead() {
        MailHeads mail = new MailHeads();
        Check.tape(mail, "a\nb\n");
        Check.same("bad() ahead of read()", mail.bad(), 0);
        mail.read();
        Check.same("bad()", mail.bad(), 2);
        Check.same("bad() again", mail.bad(), 2);
        Check.find(mail, "a");
        Check.same("bad() behind find()", mail.bad(), 2);
        Check.tape(mail, "c\nA:1");
        Check.same("bad() with a new tape", mail.bad(), 2);
        mail.read();
        Check.same("bad() of the next HEAD alone", mail.bad(), 1);
        mail.read();
        Check.same("bad() of an empty HEAD", mail.bad(), 0);
    }
}
