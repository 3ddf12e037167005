/** Promise 10: how many IDENTITIES a FIELD's VALUE has. */
public final class Promise10Identities {
    private static final int[] NO_FIELDS = {-1, -2, 2, 40, 1 << 30, Integer.MIN_VALUE, Integer.MAX_VALUE};

    public static void main(String[] args) {
        Check.part("promise 10");
        counts();
        noneSuch();
        anew();
        Check.done();
    }

    private static void due(String value, int want) {
        Check.same("identities(0) of " + value, Check.value(value).identities(0), want);
    }

    private static void counts() {
        due("", 0);
        due("<>", 0);
        due("<a>", 1);
        due("<a><><b>", 2);
        due("<" + "a".repeat(100) + ">", 1);
        due("<" + "a".repeat(101) + ">", 0);
        MailHeads mail = Check.value("<a>".repeat(498) + "<z>");
        Check.same("499 IDENTITIES", mail.identities(0), 499);
        Check.same("the last one", Check.text(mail, 4, 498), "z");
        mail = Check.value("<a".repeat(749));
        Check.same("none that is ended", mail.identities(0), 0);
    }

    private static void noneSuch() {
        MailHeads mail = Check.head("A:<a><b>\nB:2");
        mail.identities(0);
        for (int field : NO_FIELDS) {
            Check.throwsOutOfBounds("identities(" + field + ")", () -> mail.identities(field));
        }
        Check.same("what was read last stays", Check.text(mail, 4, 1), "b");
        mail.read();
        Check.throwsOutOfBounds("identities(0) of an empty HEAD", () -> mail.identities(0));
        MailHeads full = Check.head(Check.fields(41));
        Check.same("identities(39)", full.identities(39), 0);
        Check.throwsOutOfBounds("identities(40)", () -> full.identities(40));
    }

    private static void anew() {
        MailHeads mail = Check.head("A:<a><b>\nB:<c>\nC:\nD:x@y;q/r");
        Check.same("identities(0)", mail.identities(0), 2);
        Check.same("identities(0) again", mail.identities(0), 2);
        Check.same("identities(1)", mail.identities(1), 1);
        Check.same("its own", Check.text(mail, 4, 0), "c");
        Check.same("no second any more", mail.length(4, 1), MailHeads.NONE);
        mail.addresses(3);
        mail.type(3);
        mail.date(3);
        Check.same("it stays over other readings", Check.text(mail, 4, 0), "c");
        Check.same("identities(2)", mail.identities(2), 0);
        Check.same("none any more", mail.length(4, 0), MailHeads.NONE);
    }
}
