/** Promise 14: how many bytes a text of what was read last has. */
public final class Promise14Length {
    private static final int NONE = MailHeads.NONE;
    /** Among these are numbers that are small again when they are taken twice or three times, with wrap-around. */
    private static final int[] FAR = {-1, -2, 40, 1500, 1 << 30, (1 << 30) + 1, 0x55555555, 0x55555556, 0xAAAAAAAA,
        0xAAAAAAAB, Integer.MIN_VALUE, Integer.MIN_VALUE + 1, Integer.MAX_VALUE};

    public static void main(String[] args) {
        Check.part("promise 14");
        empty();
        sizes();
        longest();
        noneSuch();
        parts();
        Check.done();
    }

    private static void due(MailHeads mail, int what, int k, int want) {
        Check.same("length(" + what + ", " + k + ")", mail.length(what, k), want);
    }

    private static void empty() {
        MailHeads mail = Check.head("A::\"\",a@[]\nB:<>");
        mail.addresses(0);
        mail.identities(1);
        mail.type(1);
        due(mail, 0, 0, 0);
        due(mail, 1, 0, 0);
        due(mail, 2, 0, 0);
        due(mail, 3, 0, 0);
        due(mail, 0, 1, 0);
        due(mail, 1, 1, 1);
        due(mail, 2, 1, 2);
        due(mail, 4, 0, NONE);
        due(mail, 5, 0, NONE);
        due(mail, 6, 0, NONE);
    }

    private static void sizes() {
        MailHeads mail = Check.head("A:a. \"b c\" d:e.f <g.\"h i\"@j.k>,l(mn)@[o];\nB:<pqr><s>\nC:tu/vwx");
        mail.addresses(0);
        mail.identities(1);
        mail.type(2);
        int[][] want = {{4, 2}, {5, 1}, {3, 3}, {8}, {3, 1}, {2}, {3}};
        for (int what = 0; what < want.length; what++) {
            for (int k = 0; k < want[what].length; k++) {
                due(mail, what, k, want[what][k]);
            }
            due(mail, what, want[what].length, NONE);
            due(mail, what, -1, NONE);
        }
    }

    private static void longest() {
        MailHeads mail = Check.head("A:" + ".a".repeat(747) + ":b\n");
        mail.addresses(0);
        due(mail, 3, 0, 2241);
        mail = Check.head("A:" + "a".repeat(1498));
        mail.addresses(0);
        due(mail, 1, 0, 1498);
        mail = Check.head("A:a@" + "b".repeat(1496));
        mail.addresses(0);
        due(mail, 2, 0, 1496);
        mail = Check.head("A:a@[" + "b".repeat(1495));
        mail.addresses(0);
        due(mail, 2, 0, 1497);
        mail = Check.head("A:<" + "a".repeat(100) + ">");
        mail.identities(0);
        due(mail, 4, 0, 100);
        mail = Check.head("A:" + "a".repeat(700) + "/" + "b".repeat(797));
        mail.type(0);
        due(mail, 5, 0, 700);
        due(mail, 6, 0, 797);
    }

    private static void noneSuch() {
        MailHeads mail = Check.head("A:g:a,b\nB:<c><d>\nC:e/f");
        for (int what = 0; what < 7; what++) {
            due(mail, what, 0, NONE);
        }
        mail.addresses(0);
        mail.identities(1);
        mail.type(2);
        for (int k : FAR) {
            for (int what = -1; what < 8; what++) {
                due(mail, what, k, NONE);
            }
        }
        for (int what : new int[] {-1, -2, 7, 8, Integer.MIN_VALUE, Integer.MAX_VALUE}) {
            due(mail, what, 0, NONE);
            due(mail, what, 1, NONE);
        }
    }

    private static void parts() {
        MailHeads mail = Check.value("ab/cde;n=v");
        mail.type(0);
        for (int k = -6; k <= 6; k++) {
            due(mail, 5, k, k == 0 ? 2 : NONE);
            due(mail, 6, k, k == 0 ? 3 : NONE);
        }
    }
}
