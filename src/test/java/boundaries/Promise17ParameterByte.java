/** Promise 17: byte i of the parameter in hand, and of its CHARSET. */
public final class Promise17ParameterByte {
    private static final int NONE = MailHeads.NONE;
    private static final int[] FAR = {-1, -2, 40, 1500, 1 << 30, Integer.MIN_VALUE, Integer.MAX_VALUE};

    public static void main(String[] args) {
        Check.part("promise 17");
        noneInHand();
        ends();
        empty();
        last();
        anyByte();
        stays();
        Check.done();
    }

    private static void due(MailHeads mail, boolean charset, int i, int want) {
        Check.same("parameterByte(" + charset + ", " + i + ")", mail.parameterByte(charset, i), want);
    }

    private static MailHeads inHand(String value) {
        MailHeads mail = Check.value(value);
        mail.type(0);
        Check.tape(mail, "n");
        mail.parameter();
        return mail;
    }

    private static void noneInHand() {
        MailHeads mail = new MailHeads();
        due(mail, false, 0, NONE);
        due(mail, true, 0, NONE);
        mail = Check.value("a/b;n*=u'l'v");
        mail.type(0);
        due(mail, false, 0, NONE);
        due(mail, true, 0, NONE);
        mail = inHand("a/b;m*=u'l'v");
        due(mail, false, 0, NONE);
        due(mail, true, 0, NONE);
    }

    private static void ends() {
        MailHeads mail = inHand("a/b;n*=UTF'l'vw");
        due(mail, false, 0, 'v');
        due(mail, false, 1, 'w');
        due(mail, false, 2, NONE);
        due(mail, true, 0, 'u');
        due(mail, true, 2, 'f');
        due(mail, true, 3, NONE);
        for (int i : FAR) {
            due(mail, false, i, NONE);
            due(mail, true, i, NONE);
        }
    }

    private static void empty() {
        MailHeads mail = inHand("a/b;n=\"\"");
        due(mail, false, 0, NONE);
        due(mail, true, 0, NONE);
        mail = inHand("a/b;n*=u'l'");
        due(mail, false, 0, NONE);
        due(mail, true, 0, 'u');
        due(mail, true, 1, NONE);
        mail = inHand("a/b;n*=''v");
        due(mail, false, 0, 'v');
        due(mail, true, 0, NONE);
        mail = inHand("a/b;n=u'l'v");
        due(mail, false, 0, 'u');
        due(mail, true, 0, NONE);
    }

    private static void last() {
        MailHeads mail = inHand("a/b;n=" + "v".repeat(1491) + "z");
        due(mail, false, 1491, 'z');
        due(mail, false, 1492, NONE);
        mail = inHand("a/b;n*=" + "u".repeat(1488) + "Z''");
        due(mail, true, 1488, 'z');
        due(mail, true, 1489, NONE);
        due(mail, false, 0, NONE);
    }

    private static void anyByte() {
        for (int b = 0; b <= 255; b++) {
            due(inHand("a/b;n*=" + String.format("%%%02x", b)), false, 0, b);
            due(inHand("a/b;n*=" + String.format("%%%02X", b)), false, 0, b);
            if (b != 10 && b != '"' && b != '\\') {
                due(inHand("a/b;n=\"" + (char) b + "\""), false, 0, b);
            }
            if (b != 10 && b != '\'') {
                boolean great = b >= 'A' && b <= 'Z';
                due(inHand("a/b;n*=\"\\" + (char) b + "'l'v\""), true, 0, great ? b + 32 : b);
            }
        }
    }

    private static void stays() {
        MailHeads mail = inHand("a/b;n*=u'l'v");
        Check.tape(mail, "X:<a>\nbad");
        mail.read();
        mail.addresses(0);
        mail.identities(0);
        mail.date(0);
        Check.find(mail, "x");
        due(mail, false, 0, 'v');
        due(mail, true, 0, 'u');
        Check.tape(mail, "n");
        mail.parameter();
        due(mail, false, 0, 'v');
        due(mail, true, 0, 'u');
    }
}
