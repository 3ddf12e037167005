/** Promise 12: whether a FIELD's VALUE is a TYPE. */
public final class Promise12Type {
    private static final int NONE = MailHeads.NONE;
    private static final int[] NO_FIELDS = {-1, -2, 2, 40, 1 << 30, Integer.MIN_VALUE, Integer.MAX_VALUE};

    public static void main(String[] args) {
        Check.part("promise 12");
        whether();
        noneAnyMore();
        noneSuch();
        anew();
        Check.done();
    }

    private static void due(String value, boolean want) {
        Check.same("type(0) of " + value, Check.value(value).type(0) ? 1 : 0, want ? 1 : 0);
    }

    private static void whether() {
        due("", false);
        due("a", false);
        due("a/", false);
        due("/b", false);
        due("a/b", true);
        due("a/b;", true);
        due("a/b;=", true);
        due("\"a\"/b", false);
        due("a/" + "b".repeat(1496), true);
        due("a/b" + ";".repeat(1495), true);
        due(";".repeat(1498), false);
    }

    private static void noneAnyMore() {
        MailHeads mail = Check.head("A:a/b;n=v\nB:c;n=w\nC:c/;n=w\nD:");
        for (int field = 1; field <= 3; field++) {
            Check.same("type(0)", mail.type(0) ? 1 : 0, 1);
            Check.same("its parameter", Check.parameter(mail, "n"), "v");
            Check.same("type(" + field + ")", mail.type(field) ? 1 : 0, 0);
            Check.same("no PARAMETERS behind type(" + field + ")", Check.parameter(mail, "n"), null);
            Check.same("no first part", mail.length(5, 0), NONE);
            Check.same("no second part", mail.length(6, 0), NONE);
            Check.same("no byte of it", mail.at(5, 0, 0), NONE);
        }
    }

    private static void noneSuch() {
        MailHeads mail = Check.head("A:a/b;n=v\nB:2");
        mail.type(0);
        Check.parameter(mail, "n");
        for (int field : NO_FIELDS) {
            Check.throwsOutOfBounds("type(" + field + ")", () -> mail.type(field));
        }
        Check.same("the parameter in hand stays", Check.inHand(mail, false), "v");
        Check.same("what was read last stays", Check.text(mail, 6, 0), "b");
        Check.same("its PARAMETERS, too", Check.parameter(mail, "n"), "v");
        mail.read();
        Check.throwsOutOfBounds("type(0) of an empty HEAD", () -> mail.type(0));
        MailHeads full = Check.head(Check.fields(41));
        Check.same("type(39)", full.type(39) ? 1 : 0, 0);
        Check.throwsOutOfBounds("type(40)", () -> full.type(40));
    }

    private static void anew() {
        MailHeads mail = Check.head("A:a/b;n*0*=%41;n*1=b;m=c\nB:d/e;m=%42;n*0*=%43\nC:x@y <i>");
        Check.same("type(0)", mail.type(0) ? 1 : 0, 1);
        Check.same("type(0) again", mail.type(0) ? 1 : 0, 1);
        Check.same("its n", Check.parameter(mail, "n"), "Ab");
        Check.same("type(1)", mail.type(1) ? 1 : 0, 1);
        Check.same("its first part", Check.text(mail, 5, 0), "d");
        Check.same("its second part", Check.text(mail, 6, 0), "e");
        Check.same("its own n alone", Check.parameter(mail, "n"), "C");
        Check.same("its own m alone", Check.parameter(mail, "m"), "%42");
        mail.addresses(2);
        mail.identities(2);
        mail.date(2);
        Check.same("it stays over other readings", Check.text(mail, 5, 0), "d");
        Check.same("its m, too", Check.parameter(mail, "m"), "%42");
    }
}
