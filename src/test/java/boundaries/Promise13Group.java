/** Promise 13: GROUPS, BAD ones, and a MAILBOX's GROUP. */
public final class Promise13Group {
    private static final int NONE = MailHeads.NONE;

    public static void main(String[] args) {
        Check.part("promise 13");
        aheadOfAny();
        counts();
        mailboxes();
        otherWhats();
        Check.done();
    }

    private static void aheadOfAny() {
        MailHeads fresh = new MailHeads();
        Check.same("group(0, 0) of a new object", fresh.group(0, 0), 0);
        Check.same("group(1, 0) of a new object", fresh.group(1, 0), 0);
        Check.same("group(3, 0) of a new object", fresh.group(3, 0), NONE);
        Check.same("group(-1, 0) of a new object", fresh.group(-1, 0), NONE);
        MailHeads mail = Check.value("g:<a>,.;");
        mail.identities(0);
        mail.type(0);
        Check.same("group(0, 0) ahead of addresses()", mail.group(0, 0), 0);
        Check.same("group(1, 0) ahead of addresses()", mail.group(1, 0), 0);
    }

    private static void due(String value, int groups, int bad) {
        MailHeads mail = Check.value(value);
        mail.addresses(0);
        Check.same("group(0, 0) of " + value, mail.group(0, 0), groups);
        Check.same("group(1, 0) of " + value, mail.group(1, 0), bad);
    }

    private static void counts() {
        due("", 0, 0);
        due("a", 0, 0);
        due("g:", 1, 0);
        due(":", 1, 0);
        due("g:;h:;", 2, 0);
        due("a@b:", 1, 1);
        due("g::", 1, 1);
        due("g:.:", 1, 1);
        due("g:.:.", 1, 2);
        due(".", 0, 1);
        due(".,;.", 0, 2);
        due("<a", 0, 1);
        due(":".repeat(1498), 1, 1497);
        due(":;".repeat(749), 749, 0);
        due("@:;".repeat(499), 499, 499);
    }

    private static void mailboxes() {
        MailHeads mail = Check.head("A:a,g:b,c;d,h:e\nB:f");
        Check.same("addresses(0)", mail.addresses(0), 5);
        int[] want = {NONE, 0, 0, NONE, 1};
        for (int k = 0; k < want.length; k++) {
            Check.same("group(2, " + k + ")", mail.group(2, k), want[k]);
        }
        for (int k : new int[] {-1, -2, 5, 6, 40, 1500, Integer.MIN_VALUE, Integer.MAX_VALUE}) {
            Check.same("group(2, " + k + ")", mail.group(2, k), NONE);
        }
        mail.addresses(1);
        for (int k = 0; k < want.length; k++) {
            Check.same("group(2, " + k + ") of the next", mail.group(2, k), NONE);
        }
    }

    private static void otherWhats() {
        MailHeads mail = Check.value("g:a,b,c,d,.");
        mail.addresses(0);
        for (int what : new int[] {-1, -2, 3, 4, Integer.MIN_VALUE, Integer.MAX_VALUE}) {
            for (int k = -1; k < 4; k++) {
                Check.same("group(" + what + ", " + k + ")", mail.group(what, k), NONE);
            }
        }
    }
}
