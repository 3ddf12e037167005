/** Promise 16: the parameter whose name is on the tape. */
public final class Promise16Parameter {
    private static final int NONE = MailHeads.NONE;

    public static void main(String[] args) {
        Check.part("promise 16");
        sizes();
        greatOrSmall();
        noneSuch();
        emptied();
        most();
        inHand();
        Check.done();
    }

    private static int size(String value, String name) {
        MailHeads mail = Check.value(value);
        mail.type(0);
        Check.tape(mail, name);
        return mail.parameter();
    }

    private static void due(String value, String name, int want) {
        Check.same("parameter() " + name + " of " + value, size(value, name), want);
    }

    private static void sizes() {
        due("a/b;n=\"\"", "n", 0);
        due("a/b;n*=\"\"", "n", 0);
        due("a/b;n*=u'l'", "n", 0);
        due("a/b;n*0=\"\"", "n", 0);
        due("a/b;n=v", "n", 1);
        due("a/b;n*=%41", "n", 1);
        due("a/b;n*0=vw;n*1=x;n*3=y", "n", 3);
        due("a/b;n=v;n=wx", "n", 1);
        due("a/b;n=" + "v".repeat(1492), "n", 1492);
        due("a/b;" + "n".repeat(1492) + "=v", "n".repeat(1492), 1);
    }

    private static void greatOrSmall() {
        for (char b = 33; b <= 126; b++) {
            if ("<>:;@,)]\\=/(\"[*".indexOf(b) < 0) {
                boolean letter = b >= 'A' && b <= 'Z' || b >= 'a' && b <= 'z';
                String value = "a/b;x" + b + "=v";
                due(value, "X" + b, 1);
                due(value, "x" + (char) (b ^ 32), letter ? 1 : NONE);
            }
        }
    }

    private static void noneSuch() {
        due("a/b", "n", NONE);
        due("a/b;n=v", "m", NONE);
        due("a/b;n=v", "", NONE);
        due("a/b;*=v;*0=v;*0*=v", "", NONE);
        due("a/b;nm=v", "n", NONE);
        due("a/b;nm=v", "m", NONE);
        due("a/b;n=v", "nm", NONE);
        due("a/b;n=v", "n ", NONE);
        due("a/b;n=v", "n=v", NONE);
        due("a/b;n*=v", "n*", NONE);
        due("a/b;n*0=v", "n*0", NONE);
        due("a/b;n*1=v", "n", NONE);
        due("a;n=v", "n", NONE);
        due("", "n", NONE);
        due("a/b;n=v", "n".repeat(1500), NONE);
        MailHeads mail = Check.value("a/b;n=v");
        Check.tape(mail, "n");
        Check.same("parameter() ahead of any TYPE", mail.parameter(), NONE);
        mail.addresses(0);
        mail.identities(0);
        mail.date(0);
        Check.tape(mail, "n");
        Check.same("parameter() behind other readings", mail.parameter(), NONE);
    }

    private static void emptied() {
        MailHeads mail = Check.value("a/b;n=v");
        Check.tape(mail, "n");
        mail.parameter();
        Check.same("end(0) behind parameter() ahead of any TYPE", mail.end(0), 0);
        mail.type(0);
        Check.tape(mail, "n");
        Check.same("parameter()", mail.parameter(), 1);
        Check.same("end(0) behind parameter()", mail.end(0), 0);
        Check.same("parameter() of an empty tape", mail.parameter(), NONE);
        Check.tape(mail, "m");
        Check.same("parameter() of none", mail.parameter(), NONE);
        Check.same("end(0) behind a parameter() of none", mail.end(0), 0);
        Check.tape(mail, "N");
        Check.same("parameter() again", mail.parameter(), 1);
    }

    private static void most() {
        due("a/b" + ";c=d".repeat(372) + ";n=vw", "n", 2);
        StringBuilder pieces = new StringBuilder("a/b");
        for (int piece = 9; piece >= 0; piece--) {
            pieces.append(";n*").append(piece).append("=").append("v".repeat(140));
        }
        due(pieces.toString(), "n", 1400);
        due("a/b;n*=" + "%41".repeat(497), "n", 497);
        due("a/b;n*=" + "'".repeat(1491), "n", 1489);
    }

    private static void inHand() {
        MailHeads mail = Check.head("A:a/b;n*=U'l'v;m=w\nB:c/d;n=x");
        mail.type(0);
        Check.same("n", Check.parameter(mail, "n"), "v");
        Check.same("m", Check.parameter(mail, "M"), "w");
        Check.same("m is in hand, it has no CHARSET", Check.inHand(mail, true), "");
        Check.same("n again", Check.parameter(mail, "N"), "v");
        Check.same("n is in hand, with its CHARSET", Check.inHand(mail, true), "u");
        mail.type(1);
        Check.same("n of the TYPE that was read last", Check.parameter(mail, "n"), "x");
        Check.same("no m there", Check.parameter(mail, "m"), null);
    }
}
