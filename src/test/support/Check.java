/** What the tests have in common: texts in and out of an object, and the count of wrong answers. */
final class Check {
    private static int wrong = 0;

    private Check() {
    }

    /** Brings a text (characters 0 to 255) to the tape, twenty bytes at a time. */
    static void tape(MailHeads mail, String text) {
        for (int from = 0; from < text.length(); from += 20) {
            int[] words = new int[5];
            int n = Math.min(20, text.length() - from);
            for (int i = 0; i < n; i++) {
                words[i / 4] |= text.charAt(from + i) << (24 - 8 * (i % 4));
            }
            mail.feed(words[0], words[1], words[2], words[3], words[4]);
            if (mail.end(n) == MailHeads.NONE) {
                throw new IllegalStateException("the tape is full");
            }
        }
    }

    static MailHeads head(String text) {
        MailHeads mail = new MailHeads();
        tape(mail, text);
        mail.read();
        return mail;
    }

    /** A head of one field X with this value. */
    static MailHeads value(String value) {
        return head("X:" + value);
    }

    static int find(MailHeads mail, String name) {
        tape(mail, name);
        return mail.find();
    }

    /** A field's name (what = 0) or value (1); null if there is none. */
    static String field(MailHeads mail, int field, int what) {
        int size = mail.field(field, what);
        StringBuilder text = new StringBuilder();
        for (int i = 0; i < size; i++) {
            text.append((char) mail.fieldByte(field, what, i));
        }
        same("fieldByte behind the end", mail.fieldByte(field, what, Math.max(0, size)), MailHeads.NONE);
        same("fieldByte ahead of the start", mail.fieldByte(field, what, -1), MailHeads.NONE);
        return size == MailHeads.NONE ? null : text.toString();
    }

    /** The text that length() and at() tell of; null if there is none. */
    static String text(MailHeads mail, int what, int k) {
        int size = mail.length(what, k);
        StringBuilder text = new StringBuilder();
        for (int i = 0; i < size; i++) {
            text.append((char) mail.at(what, k, i));
        }
        same("at behind the end", mail.at(what, k, Math.max(0, size)), MailHeads.NONE);
        same("at ahead of the start", mail.at(what, k, -1), MailHeads.NONE);
        return size == MailHeads.NONE ? null : text.toString();
    }

    /** The bytes of the parameter of this name, which is in hand then; null if there is none. */
    static String parameter(MailHeads mail, String name) {
        tape(mail, name);
        int size = mail.parameter();
        String text = inHand(mail, false);
        same("parameter() and what is in hand", Math.max(0, size), text.length());
        return size == MailHeads.NONE ? null : text;
    }

    static String inHand(MailHeads mail, boolean charset) {
        StringBuilder text = new StringBuilder();
        for (int i = 0; mail.parameterByte(charset, i) != MailHeads.NONE; i++) {
            text.append((char) mail.parameterByte(charset, i));
        }
        same("parameterByte ahead of the start", mail.parameterByte(charset, -1), MailHeads.NONE);
        return text.toString();
    }

    static void same(String call, long got, long due) {
        if (got != due) {
            wrong++;
            System.out.println(call + " answered " + got + ", due is " + due);
        }
    }

    static void same(String call, String got, String due) {
        if (got == null ? due != null : !got.equals(due)) {
            wrong++;
            System.out.println(call + " answered " + got + ", due is " + due);
        }
    }

    static void done() {
        System.out.println(wrong == 0 ? "all answers are as due" : wrong + " answers are not as due");
        if (wrong != 0) {
            System.exit(1);
        }
    }
}
