/** Promise 15: byte i of a text of what was read last. */
public final class Promise15At {
    private static final int NONE = MailHeads.NONE;
    private static final int[] FAR = {-1, -2, 40, 1500, 1 << 30, 0x55555555, 0x55555556, 0xAAAAAAAB, Integer.MIN_VALUE,
        Integer.MAX_VALUE};

    public static void main(String[] args) {
        Check.part("promise 15");
        ends();
        noneSuch();
        anyByte();
        Check.done();
    }

    private static void due(MailHeads mail, int what, int k, int i, int want) {
        Check.same("at(" + what + ", " + k + ", " + i + ")", mail.at(what, k, i), want);
    }

    private static MailHeads told() {
        MailHeads mail = Check.head("A:gh:ij<kl@mn>,op@qr(st);uv:\nB:<ab><cd>\nC:EF/GH");
        mail.addresses(0);
        mail.identities(1);
        mail.type(2);
        return mail;
    }

    private static void ends() {
        String[][] texts = {{"ij", "st"}, {"kl", "op"}, {"mn", "qr"}, {"gh", "uv"}, {"ab", "cd"}, {"ef"}, {"gh"}};
        MailHeads mail = told();
        for (int what = 0; what < texts.length; what++) {
            for (int k = 0; k < texts[what].length; k++) {
                due(mail, what, k, 0, texts[what][k].charAt(0));
                due(mail, what, k, 1, texts[what][k].charAt(1));
                due(mail, what, k, 2, NONE);
                due(mail, what, k, -1, NONE);
            }
        }
    }

    private static void noneSuch() {
        MailHeads fresh = new MailHeads();
        MailHeads far = told();
        MailHeads other = told();
        for (int what = 0; what < 7; what++) {
            due(fresh, what, 0, 0, NONE);
            for (int number : FAR) {
                due(far, what, 0, number, NONE);
                due(other, what, number, 0, NONE);
                due(other, what, number, 1, NONE);
            }
        }
        for (int what : new int[] {-1, -2, 7, 8, Integer.MIN_VALUE, Integer.MAX_VALUE}) {
            due(other, what, 0, 0, NONE);
            due(other, what, 1, 1, NONE);
        }
        MailHeads empty = Check.value(":\"\"");
        empty.addresses(0);
        for (int what = 0; what < 4; what++) {
            due(empty, what, 0, 0, NONE);
        }
    }

    private static void anyByte() {
        for (char b = 128; b <= 255; b++) {
            String c = Character.toString(b);
            MailHeads mail = Check.value(c + ":" + c + "<" + c + "@" + c + ">");
            mail.addresses(0);
            mail.identities(0);
            for (int what = 0; what < 4; what++) {
                due(mail, what, 0, 0, b);
            }
            due(mail, 4, 0, 2, b);
            mail = Check.value(c + "/" + c);
            mail.type(0);
            due(mail, 5, 0, 0, b);
            due(mail, 6, 0, 0, b);
        }
    }
}
