/** What the tests have in common: texts in and out of an object, and the count of wrong answers. */
final class Check {
    private static int wrong = 0;
    private static String part = "";

    private Check() {
    }

    /** Names the promise, or the words ahead of the promises, that the calls behind this one test. */
    static void part(String name) {
        part = name + ": ";
    }

    /** Brings a text (characters 0 to 255) to the tape, twenty bytes at a time. */
    static void tape(MailHeads mail, String text) {
        for (int from = 0; from < text.length(); from += 20) {
            int n = Math.min(20, text.length() - from);
            feed(mail, text.substring(from, from + n));
            if (mail.end(n) == MailHeads.NONE) {
                throw new IllegalStateException("the tape is full");
            }
        }
    }

    /** Puts at most twenty bytes ready, and 0 behind them. */
    static void feed(MailHeads mail, String text) {
        int[] words = new int[5];
        for (int i = 0; i < text.length(); i++) {
            words[i / 4] |= text.charAt(i) << (24 - 8 * (i % 4));
        }
        mail.feed(words[0], words[1], words[2], words[3], words[4]);
    }

    static MailHeads head(String text) {
        MailHeads mail = new MailHeads();
        tape(mail, text);
        mail.read();
        return mail;
    }

    /** A head of one field X with this value. */
    static MailHeads value(String value) {
        return head("X:" + value);
    }

    /** A head of this many fields: N0:0, N1:1 and so on. */
    static String fields(int count) {
        StringBuilder head = new StringBuilder();
        for (int i = 0; i < count; i++) {
            head.append("N").append(i).append(":").append(i).append("\n");
        }
        return head.toString();
    }

    static int find(MailHeads mail, String name) {
        tape(mail, name);
        return mail.find();
    }

    /** A field's name (what = 0) or value (1); null if there is none. */
    static String field(MailHeads mail, int field, int what) {
        int size = mail.field(field, what);
        StringBuilder text = new StringBuilder();
        for (int i = 0; i < size; i++) {
            text.append((char) mail.fieldByte(field, what, i));
        }
        same("fieldByte behind the end", mail.fieldByte(field, what, Math.max(0, size)), MailHeads.NONE);
        same("fieldByte ahead of the start", mail.fieldByte(field, what, -1), MailHeads.NONE);
        return size == MailHeads.NONE ? null : text.toString();
    }

    /** All FIELDS of a HEAD as NAME=VALUE| and then how many lines were BAD. */
    static String lines(String head) {
        MailHeads mail = new MailHeads();
        tape(mail, head);
        int count = mail.read();
        StringBuilder all = new StringBuilder();
        for (int i = 0; i < count; i++) {
            all.append(field(mail, i, 0)).append('=').append(field(mail, i, 1)).append('|');
        }
        return all.append(mail.bad()).toString();
    }

    /** The text that length() and at() tell of; null if there is none. */
    static String text(MailHeads mail, int what, int k) {
        int size = mail.length(what, k);
        StringBuilder text = new StringBuilder();
        for (int i = 0; i < size; i++) {
            text.append((char) mail.at(what, k, i));
        }
        same("at behind the end", mail.at(what, k, Math.max(0, size)), MailHeads.NONE);
        same("at ahead of the start", mail.at(what, k, -1), MailHeads.NONE);
        return size == MailHeads.NONE ? null : text.toString();
    }

    /** All MAILBOXES of a VALUE as TITLE|LOCAL|DOMAIN|GROUP, GROUPS' names in { }, and how many were BAD. */
    static String addresses(String value) {
        MailHeads mail = value(value);
        int count = mail.addresses(0);
        StringBuilder all = new StringBuilder();
        for (int k = 0; k < count; k++) {
            all.append(text(mail, 0, k)).append('|').append(text(mail, 1, k)).append('|');
            all.append(text(mail, 2, k)).append('|').append(mail.group(2, k)).append(' ');
        }
        int groups = mail.group(0, 0);
        for (int k = 0; k < groups; k++) {
            all.append('{').append(text(mail, 3, k)).append("} ");
        }
        same("length(0, count)", mail.length(0, count), MailHeads.NONE);
        same("group(2, count)", mail.group(2, count), MailHeads.NONE);
        same("length(3, groups)", mail.length(3, groups), MailHeads.NONE);
        return all.append(mail.group(1, 0)).toString();
    }

    /** All IDENTITIES of a VALUE, a | behind each. */
    static String identities(String value) {
        MailHeads mail = value(value);
        int count = mail.identities(0);
        StringBuilder all = new StringBuilder();
        for (int k = 0; k < count; k++) {
            all.append(text(mail, 4, k)).append('|');
        }
        same("length(4, count)", mail.length(4, count), MailHeads.NONE);
        return all.toString();
    }

    /** The TYPE of a VALUE as first/second part; null if it is none. */
    static String type(String value) {
        MailHeads mail = value(value);
        boolean is = mail.type(0);
        String parts = text(mail, 5, 0) + "/" + text(mail, 6, 0);
        return is ? parts : null;
    }

    /** The bytes of the parameter of this name, which is in hand then; null if there is none. */
    static String parameter(MailHeads mail, String name) {
        tape(mail, name);
        int size = mail.parameter();
        if (size == MailHeads.NONE) {
            return null;
        }
        String text = inHand(mail, false);
        same("parameter() and what is in hand", size, text.length());
        return text;
    }

    /** The parameter of this name of the TYPE a/b with this behind it, as CHARSET'bytes; null if there is none. */
    static String parameterOf(String behind, String name) {
        MailHeads mail = value("a/b" + behind);
        same("type of a/b" + behind, mail.type(0) ? 1 : 0, 1);
        String bytes = parameter(mail, name);
        return bytes == null ? null : inHand(mail, true) + "'" + bytes;
    }

    static String inHand(MailHeads mail, boolean charset) {
        StringBuilder text = new StringBuilder();
        for (int b = mail.parameterByte(charset, 0); b != MailHeads.NONE; b = mail.parameterByte(charset, text.length())) {
            text.append((char) b);
        }
        same("parameterByte ahead of the start", mail.parameterByte(charset, -1), MailHeads.NONE);
        return text.toString();
    }

    /** The name of what a call throws. */
    static String thrown(Runnable call) {
        try {
            call.run();
        } catch (RuntimeException e) {
            return e.getClass().getSimpleName();
        }
        return "nothing";
    }

    static void throwsOutOfBounds(String call, Runnable called) {
        same(call + " throws", thrown(called), "IndexOutOfBoundsException");
    }

    static void same(String call, long got, long due) {
        if (got != due) {
            wrong++;
            System.out.println(part + call + " answered " + got + ", due is " + due);
        }
    }

    static void same(String call, String got, String due) {
        if (got == null ? due != null : !got.equals(due)) {
            wrong++;
            System.out.println(part + call + " answered " + got + ", due is " + due);
        }
    }

    static void done() {
        System.out.println(wrong == 0 ? "all answers are as due" : wrong + " answers are not as due");
        if (wrong != 0) {
            System.exit(1);
        }
    }
}
