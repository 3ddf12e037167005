/** Promise 11: a FIELD's DATE. */
public final class Promise11Date {
    private static final int[] NO_FIELDS = {-1, -2, 2, 40, 1 << 30, Integer.MIN_VALUE, Integer.MAX_VALUE};

    public static void main(String[] args) {
        Check.part("promise 11");
        ends();
        noneSuch();
        leavesAll();
        Check.done();
    }

    private static void due(String value, long want) {
        Check.same("date(0) of " + value, Check.value(value).date(0), want);
    }

    private static void ends() {
        due("", Long.MIN_VALUE);
        due("now", Long.MIN_VALUE);
        due("1 Jan 1970 00:00:00 GMT", 0);
        due("31 Dec 1969 23:59:59 GMT", -1);
        due("1 Jan 1970 00:00:01 GMT", 1);
        due("1 Jan 1900 00:00 +2359", -2209075140L);
        due("31 Dec 2999 23:59:60 -2359", 32503766340L);
        due("19 Jan 2038 03:14:07", Integer.MAX_VALUE);
        due("19 Jan 2038 03:14:08", Integer.MAX_VALUE + 1L);
        due("13 Dec 1901 20:45:52", Integer.MIN_VALUE);
        due("13 Dec 1901 20:45:51", Integer.MIN_VALUE - 1L);
        due("29 Feb 1900 00:00", Long.MIN_VALUE);
        due("29 Feb 2000 00:00", 951782400);
        due("1 Jan 1899 00:00", Long.MIN_VALUE);
        due("1 Jan 3000 00:00", Long.MIN_VALUE);
        due("1 Jan 1970 00:00 (" + "x".repeat(1450), 0);
        due("1".repeat(1498), Long.MIN_VALUE);
    }

    private static void noneSuch() {
        MailHeads mail = Check.head("A:1 Jan 1970 00:00\nB:2");
        for (int field : NO_FIELDS) {
            Check.throwsOutOfBounds("date(" + field + ")", () -> mail.date(field));
        }
        Check.same("date(0)", mail.date(0), 0);
        Check.same("date(1)", mail.date(1), Long.MIN_VALUE);
        mail.read();
        Check.throwsOutOfBounds("date(0) of an empty HEAD", () -> mail.date(0));
        MailHeads full = Check.head(Check.fields(41));
        Check.same("date(39)", full.date(39), Long.MIN_VALUE);
        Check.throwsOutOfBounds("date(40)", () -> full.date(40));
    }

    private static void leavesAll() {
        MailHeads mail = Check.head("A:x@y <i> q\nB:<i>\nC:a/b;n=v\nD:1 Jan 1970 00:00");
        mail.addresses(1);
        mail.identities(1);
        mail.type(2);
        Check.parameter(mail, "n");
        Check.tape(mail, "N");
        Check.same("date(3)", mail.date(3), 0);
        Check.same("date(0)", mail.date(0), Long.MIN_VALUE);
        Check.same("the tape", mail.end(0), 1);
        Check.same("the MAILBOX", Check.text(mail, 1, 0), "i");
        Check.same("the IDENTITY", Check.text(mail, 4, 0), "i");
        Check.same("the TYPE", Check.text(mail, 5, 0), "a");
        Check.same("the parameter in hand", Check.inHand(mail, false), "v");
        Check.same("the parameter", mail.parameter(), 1);
    }
}
