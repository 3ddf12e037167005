/** Promise 9: how many MAILBOXES a FIELD's VALUE has. */
public final class Promise09Addresses {
    private static final int[] NO_FIELDS = {-1, -2, 2, 40, 1 << 30, Integer.MIN_VALUE, Integer.MAX_VALUE};

    public static void main(String[] args) {
        Check.part("promise 9");
        counts();
        most();
        noneSuch();
        anew();
        Check.done();
    }

    private static void due(String value, int want) {
        Check.same("addresses(0) of " + value, Check.value(value).addresses(0), want);
    }

    private static void counts() {
        due("", 0);
        due(",", 0);
        due("g:;", 0);
        due(".", 0);
        due("a", 1);
        due("a,.,b", 2);
        due("g:a,b;c", 3);
    }

    private static void most() {
        MailHeads mail = Check.value("a,".repeat(748) + "z,");
        Check.same("749 MAILBOXES", mail.addresses(0), 749);
        Check.same("the last one's LOCAL", Check.text(mail, 1, 748), "z");
        mail = Check.value(":;".repeat(748) + ":z");
        Check.same("a MAILBOX in the last of 749 GROUPS", mail.addresses(0), 1);
        Check.same("749 GROUPS", mail.group(0, 0), 749);
        Check.same("its GROUP", mail.group(2, 0), 748);
        mail = Check.value(".,".repeat(749));
        Check.same("none but BAD ones", mail.addresses(0), 0);
        Check.same("749 BAD ones", mail.group(1, 0), 749);
        mail = Check.value(":".repeat(1498));
        Check.same("none but :", mail.addresses(0), 0);
        Check.same("1497 BAD ones in a GROUP", mail.group(1, 0), 1497);
        mail = Check.value("a.".repeat(748) + "aa");
        Check.same("one long LOCAL", mail.addresses(0), 1);
        Check.same("its length", mail.length(1, 0), 1498);
        mail = Check.value("a ".repeat(747) + "<b>z");
        Check.same("one long row of words that is BAD", mail.addresses(0), 0);
        mail = Check.value(".a".repeat(747) + "<b>");
        Check.same("one long TITLE", mail.addresses(0), 1);
        Check.same("its length", mail.length(0, 0), 2241);
        Check.same("its last byte", mail.at(0, 0, 2240), 'a');
        mail = Check.value("a" + "(".repeat(1497));
        Check.same("one deep COMMENT", mail.addresses(0), 1);
        Check.same("its length", mail.length(0, 0), 1496);
    }

    private static void noneSuch() {
        MailHeads mail = Check.head("A:g:t<l@d>,.\nB:2");
        mail.addresses(0);
        for (int field : NO_FIELDS) {
            Check.throwsOutOfBounds("addresses(" + field + ")", () -> mail.addresses(field));
        }
        Check.same("what was read last stays", Check.text(mail, 0, 0), "t");
        Check.same("its GROUP's NAME, too", Check.text(mail, 3, 0), "g");
        Check.same("the BAD ones, too", mail.group(1, 0), 1);
        mail.read();
        Check.throwsOutOfBounds("addresses(0) of an empty HEAD", () -> mail.addresses(0));
        MailHeads fresh = new MailHeads();
        Check.throwsOutOfBounds("addresses(0) of a new object", () -> fresh.addresses(0));
        MailHeads full = Check.head(Check.fields(41));
        Check.same("addresses(39)", full.addresses(39), 1);
        Check.throwsOutOfBounds("addresses(40)", () -> full.addresses(40));
    }

    private static void anew() {
        MailHeads mail = Check.head("A:g:a,b;h:c@d,.\nB:e\nC:\nD:<i>a/b");
        Check.same("addresses(0)", mail.addresses(0), 3);
        Check.same("addresses(0) again", mail.addresses(0), 3);
        Check.same("GROUPS are not summed", mail.group(0, 0), 2);
        Check.same("BAD ones are not summed", mail.group(1, 0), 1);
        Check.same("addresses(1)", mail.addresses(1), 1);
        Check.same("no GROUPS any more", mail.group(0, 0), 0);
        Check.same("no BAD ones any more", mail.group(1, 0), 0);
        Check.same("its own LOCAL", Check.text(mail, 1, 0), "e");
        Check.same("no second MAILBOX any more", mail.length(1, 1), MailHeads.NONE);
        mail.identities(3);
        mail.type(3);
        mail.date(3);
        Check.same("the LOCAL stays over other readings", Check.text(mail, 1, 0), "e");
        Check.same("addresses(2)", mail.addresses(2), 0);
        Check.same("no MAILBOX any more", mail.length(1, 0), MailHeads.NONE);
    }
}
