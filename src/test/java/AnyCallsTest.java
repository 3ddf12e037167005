import java.util.Random;

/** Any calls in any order on any bytes: nothing is thrown but what the document says, and answers fit one another. */
public final class AnyCallsTest {
    private static final int CALLS = 512;
    private static final int MOST_AT_ONCE = 160;
    private static final int[] EDGES = {-2, -1, 0, 1, 2, 3, 19, 20, 21, 39, 40, 41, 1499, 1500, 1 << 30, 1 << 31,
        Integer.MAX_VALUE, 0x55555556};
    private static final String BYTES = "<>:;@,.)]\\=/(\"[ \t\n\n\r*'%019abJn\u0000\u007f\u0080\u00ff";
    private static final String[] PARTS = {"\nA:", "\nContent-Type:text/plain", ";n*0*=u'l'%41", ";n*1=", "1 Jan 2000 ",
        "00:00", "<a@b>", "g:", "\r\n ", "(c)", "\"q\""};

    public static void main(String[] args) {
        for (int run = 0; run < 10000; run++) {
            calls(new Random(run), run);
        }
        Check.done();
    }

    private static void calls(Random random, int run) {
        MailHeads mail = new MailHeads();
        for (int left = CALLS; left >= MOST_AT_ONCE;) {
            int call = random.nextInt(20);
            try {
                left -= call(mail, random, call);
            } catch (RuntimeException e) {
                left--;
                boolean meant = e.getClass() == IndexOutOfBoundsException.class && call >= 9 && call <= 12;
                Check.same("run " + run + ", call " + call + " threw " + e + "; meant", meant ? 1 : 0, 1);
            }
        }
    }

    private static int number(Random random) {
        return random.nextInt(3) > 0 ? random.nextInt(4) : EDGES[random.nextInt(EDGES.length)];
    }

    private static String piece(Random random) {
        StringBuilder text = new StringBuilder();
        while (text.length() < 20) {
            if (random.nextInt(4) == 0) {
                text.append(PARTS[random.nextInt(PARTS.length)]);
            } else {
                text.append(BYTES.charAt(random.nextInt(BYTES.length())));
            }
        }
        return text.substring(0, 1 + random.nextInt(20));
    }

    /** Answers how many calls of the object were made. */
    private static int call(MailHeads mail, Random random, int call) {
        int a = number(random);
        int b = number(random);
        int c = number(random);
        switch (call) {
            case 0 -> mail.feed(random.nextInt(), random.nextInt(), a, b, c);
            case 1 -> mail.end(a);
            case 2 -> {
                return readAny(mail, random);
            }
            case 3 -> mail.bad();
            case 4 -> mail.find();
            case 5 -> mail.field(a, b);
            case 6 -> isByte(mail.fieldByte(a, b, c));
            case 7 -> mail.read();
            case 9 -> isWithin(mail.addresses(a));
            case 10 -> isWithin(mail.identities(a));
            case 11 -> mail.date(a);
            case 12 -> mail.type(a);
            case 13 -> mail.group(a, b);
            case 14 -> isWithin(mail.length(a, b));
            case 15 -> isByte(mail.at(a, b, c));
            case 16 -> isWithin(mail.parameter());
            case 17 -> isByte(mail.parameterByte(random.nextBoolean(), a));
            default -> {
                return everything(mail, random.nextInt(4));
            }
        }
        return 1;
    }

    private static int readAny(MailHeads mail, Random random) {
        mail.read();
        int parts = random.nextInt(76);
        for (int i = 0; i < parts; i++) {
            Check.tape(mail, piece(random));
        }
        mail.read();
        return 2 * parts + 2;
    }

    private static int everything(MailHeads mail, int field) {
        if (mail.field(field, 0) == MailHeads.NONE) {
            return 1;
        }
        mail.date(field);
        int count = mail.addresses(field);
        int groups = mail.group(0, 0);
        int[] counts = {count, count, count, groups, mail.identities(field), mail.type(field) ? 1 : 0};
        for (int what = 0; what < counts.length; what++) {
            Check.same("no text behind the last", mail.length(what, counts[what]), MailHeads.NONE);
            Check.same("a last text", mail.length(what, counts[what] - 1) >= 0 ? 1 : 0, counts[what] > 0 ? 1 : 0);
        }
        for (int k = 0; k < Math.min(count, 9); k++) {
            Check.same("a mailbox's group is there", mail.group(2, k) < groups ? 1 : 0, 1);
        }
        return 6 + 2 * counts.length + Math.min(count, 9);
    }

    private static void isByte(int answer) {
        Check.same("a byte or NONE: " + answer, answer >= -1 && answer <= 255 ? 1 : 0, 1);
    }

    private static void isWithin(int answer) {
        Check.same("a length or NONE: " + answer, answer >= -1 && answer <= 2250 ? 1 : 0, 1);
    }
}
