import java.util.Arrays;

/** The head of a mail, read from any bytes; what is wrong in it is passed over by the document's rules. */
public final class MailHeads {
    public static final int NONE = -1;

    private static final int READY_LIMIT = 20;
    private static final int TAPE_LIMIT = 1500;

    private final int[] ready;
    private final Row tape;
    private final Head head;
    private final Words words;
    private final Addresses lastAddresses;
    private final Identities lastIdentities;
    private final DateReader dateReader;
    private final ContentType lastType;
    private final Texts nothing;

    public MailHeads() {
        ready = new int[READY_LIMIT / 4];
        tape = new Row();
        head = new Head();
        words = new Words();
        lastAddresses = new Addresses(words);
        lastIdentities = new Identities();
        dateReader = new DateReader(words);
        lastType = new ContentType(words);
        nothing = new Texts();
    }

    public void feed(int a, int b, int c, int d, int e) {
        ready[0] = a;
        ready[1] = b;
        ready[2] = c;
        ready[3] = d;
        ready[4] = e;
    }

    public int end(int n) {
        if (n < 0 || n > READY_LIMIT || tape.size() + n > TAPE_LIMIT) {
            return NONE;
        }
        for (int i = 0; i < n; i++) {
            tape.add(ready[i / 4] >>> (24 - 8 * (i % 4)) & 255);
        }
        Arrays.fill(ready, 0);
        return tape.size();
    }

    public int read() {
        head.readLines(tape);
        tape.cutTo(0);
        return head.count();
    }

    public int bad() {
        return head.badLines();
    }

    public int find() {
        int found = head.firstNamed(tape);
        tape.cutTo(0);
        return found;
    }

    public int field(int field, int what) {
        return head.texts().sizeOf(head.textOf(field, what));
    }

    public int fieldByte(int field, int what, int k) {
        return head.texts().byteOf(head.textOf(field, what), k);
    }

    public int addresses(int field) throws IndexOutOfBoundsException {
        words.cut(head.texts(), valueOf(field), Words.PLAIN_SIGNS, true);
        lastAddresses.readWords();
        return lastAddresses.count();
    }

    public int identities(int field) throws IndexOutOfBoundsException {
        lastIdentities.readBytes(head.texts(), valueOf(field));
        return lastIdentities.texts().count();
    }

    public long date(int field) throws IndexOutOfBoundsException {
        words.cut(head.texts(), valueOf(field), Words.PLAIN_SIGNS, false);
        return dateReader.seconds();
    }

    public boolean type(int field) throws IndexOutOfBoundsException {
        words.cut(head.texts(), valueOf(field), Words.TYPE_SIGNS, false);
        return lastType.readWords();
    }

    public int group(int what, int k) {
        switch (what) {
            case 0:
                return lastAddresses.groupNames().count();
            case 1:
                return lastAddresses.badOnes();
            case 2:
                return lastAddresses.groupOf(k);
            default:
                return NONE;
        }
    }

    public int length(int what, int k) {
        return textsFor(what).sizeOf(textFor(what, k));
    }

    public int at(int what, int k, int i) {
        return textsFor(what).byteOf(textFor(what, k), i);
    }

    public int parameter() {
        int size = lastType.takeInHand(tape);
        tape.cutTo(0);
        return size;
    }

    public int parameterByte(boolean charset, int i) {
        return lastType.byteInHand(charset, i);
    }

    private int valueOf(int field) {
        int text = head.textOf(field, 1);
        if (text == NONE) {
            throw new IndexOutOfBoundsException("no such field");
        }
        return text;
    }

    private Texts textsFor(int what) {
        switch (what) {
            case 0:
            case 1:
            case 2:
                return lastAddresses.texts();
            case 3:
                return lastAddresses.groupNames();
            case 4:
                return lastIdentities.texts();
            case 5:
            case 6:
                return lastType.parts();
            default:
                return nothing;
        }
    }

    private int textFor(int what, int k) {
        switch (what) {
            case 0:
            case 1:
            case 2:
                return lastAddresses.textOf(k, what);
            case 5:
            case 6:
                return k == 0 ? what - 5 : NONE;
            default:
                return k;
        }
    }

    private static boolean isBlank(int b) {
        return b == 32 || b == 9;
    }

    private static int small(int b) {
        return b >= 'A' && b <= 'Z' ? b + 32 : b;
    }

    private static int digit(int b) {
        return b >= '0' && b <= '9' ? b - '0' : NONE;
    }

    /** A row of numbers, NONE beyond its end; it grows, so that an object that reads little stays small. */
    private static final class Row {
        private static final int FIRST_ROOM = 16;
        // Far above what the 1500 bytes of a HEAD can bring to any row.
        private static final int ROOM_LIMIT = 4096;

        private int[] cells;
        private int count;

        Row() {
            cells = new int[FIRST_ROOM];
            count = 0;
        }

        int size() {
            return count;
        }

        int get(int i) {
            return i >= 0 && i < count ? cells[i] : NONE;
        }

        void add(int number) {
            if (count >= ROOM_LIMIT) {
                return;
            }
            if (count >= cells.length) {
                cells = Arrays.copyOf(cells, 2 * count);
            }
            cells[count] = number;
            count++;
        }

        void cutTo(int size) {
            if (size >= 0 && size < count) {
                count = size;
            }
        }
    }

    /** Texts one behind the other; bytes that are put belong to an open text until it is closed. */
    private static final class Texts {
        private final Row bytes;
        // Text i lies between bounds i and i + 1, so there is one more bound than there are texts.
        private final Row bounds;

        Texts() {
            bytes = new Row();
            bounds = new Row();
            bounds.add(0);
        }

        int count() {
            return bounds.size() - 1;
        }

        int sizeOf(int text) {
            return text >= 0 && text < bounds.size() - 1 ? bounds.get(text + 1) - bounds.get(text) : NONE;
        }

        int byteOf(int text, int i) {
            return i >= 0 && i < sizeOf(text) ? bytes.get(bounds.get(text) + i) : NONE;
        }

        void put(int b) {
            bytes.add(b);
        }

        void putText(Texts from, int text) {
            int start = from.bounds.get(text);
            int size = from.sizeOf(text);
            for (int i = 0; i < size; i++) {
                bytes.add(from.bytes.get(start + i));
            }
        }

        void putSmall(Texts from, int text, int size) {
            for (int i = 0; i < size; i++) {
                bytes.add(small(from.byteOf(text, i)));
            }
        }

        void close() {
            bounds.add(bytes.size());
        }

        void dropOpen() {
            bytes.cutTo(bounds.get(bounds.size() - 1));
        }

        void clear() {
            bytes.cutTo(0);
            bounds.cutTo(1);
        }

        boolean isNamed(int text, Row name) {
            if (sizeOf(text) != name.size()) {
                return false;
            }
            for (int i = 0; i < name.size(); i++) {
                if (small(byteOf(text, i)) != small(name.get(i))) {
                    return false;
                }
            }
            return true;
        }
    }

    /** The FIELDS of a HEAD: each one's NAME and VALUE are two texts, one behind the other. */
    private static final class Head {
        private static final int FIELD_LIMIT = 40;

        private final Texts texts;
        private int badLines;
        // While a VALUE's text is open, a line that begins with a BLANK comes to it.
        private boolean valueOpen;

        Head() {
            texts = new Texts();
            badLines = 0;
            valueOpen = false;
        }

        Texts texts() {
            return texts;
        }

        int count() {
            return texts.count() / 2;
        }

        int badLines() {
            return badLines;
        }

        int textOf(int field, int what) {
            boolean there = field >= 0 && field < count() && (what == 0 || what == 1);
            return there ? 2 * field + what : NONE;
        }

        int firstNamed(Row name) {
            for (int field = 0; field < count(); field++) {
                if (texts.isNamed(2 * field, name)) {
                    return field;
                }
            }
            return NONE;
        }

        void readLines(Row bytes) {
            texts.clear();
            badLines = 0;
            int size = bytes.size();
            int start = 0;
            for (int i = 0; i < size; i++) {
                boolean broken = bytes.get(i) == 10;
                if (!broken && i + 1 < size) {
                    continue;
                }
                int end = broken ? i : size;
                if (broken && end > start && bytes.get(end - 1) == 13) {
                    end--;
                }
                if (!takeLine(bytes, start, end)) {
                    break;
                }
                start = i + 1;
            }
            closeValue();
        }

        /** Answers whether the lines behind this one count. */
        private boolean takeLine(Row bytes, int start, int end) {
            if (start < end && isBlank(bytes.get(start))) {
                takeFolded(bytes, start, end);
                return true;
            }
            int nameEnd = nameEnd(bytes, start, end);
            int colon = behindBlanks(bytes, nameEnd, end);
            closeValue();
            if (nameEnd == start || colon >= end || bytes.get(colon) != ':') {
                badLines++;
                return true;
            }
            if (count() >= FIELD_LIMIT) {
                return false;
            }
            putBytes(bytes, start, nameEnd);
            texts.close();
            putBytes(bytes, colon + 1, end);
            valueOpen = true;
            return true;
        }

        private void takeFolded(Row bytes, int start, int end) {
            if (valueOpen) {
                putBytes(bytes, start, end);
            } else {
                badLines++;
            }
        }

        private static int nameEnd(Row bytes, int start, int end) {
            for (int i = start; i < end; i++) {
                int b = bytes.get(i);
                if (b < 33 || b > 126 || b == ':') {
                    return i;
                }
            }
            return end;
        }

        private static int behindBlanks(Row bytes, int start, int end) {
            for (int i = start; i < end; i++) {
                if (!isBlank(bytes.get(i))) {
                    return i;
                }
            }
            return end;
        }

        private void putBytes(Row bytes, int start, int end) {
            for (int i = start; i < end; i++) {
                texts.put(bytes.get(i));
            }
        }

        private void closeValue() {
            if (valueOpen) {
                texts.close();
                valueOpen = false;
            }
        }
    }

    /** The WORDS of a VALUE; the kind of a SIGN is its own byte, which none of the other kinds is. */
    private static final class Words {
        static final int ATOM = 1;
        static final int QUOTED = 2;
        static final int LITERAL = 3;
        static final int COMMENT = 4;
        static final String PLAIN_SIGNS = "<>:;@,.)]\\";
        static final String TYPE_SIGNS = "<>:;@,)]\\=/";

        private final Texts texts;
        private final Row kinds;
        private Texts source;
        private int value;
        private String signs;

        Words() {
            texts = new Texts();
            kinds = new Row();
            source = texts;
            value = NONE;
            signs = PLAIN_SIGNS;
        }

        Texts texts() {
            return texts;
        }

        Row kinds() {
            return kinds;
        }

        void cut(Texts from, int text, String signsOfValue, boolean withComments) {
            texts.clear();
            kinds.cutTo(0);
            source = from;
            value = text;
            signs = signsOfValue;
            int size = source.sizeOf(value);
            int place = 0;
            while (place < size) {
                place = Math.max(place + 1, cutWord(place, size, withComments));
            }
        }

        /** Answers where the next word may begin. */
        private int cutWord(int start, int size, boolean withComments) {
            int b = source.byteOf(value, start);
            if (isNothing(b)) {
                return start + 1;
            }
            if (b == '(') {
                return cutComment(start + 1, size, withComments);
            }
            if (b == '"') {
                return cutEnclosed(start + 1, size, '"', QUOTED);
            }
            if (b == '[') {
                return cutEnclosed(start + 1, size, ']', LITERAL);
            }
            if (isSign(b)) {
                texts.put(b);
                close(b);
                return start + 1;
            }
            return cutAtom(start, size);
        }

        private int cutComment(int start, int size, boolean kept) {
            int depth = 1;
            int i = start;
            for (; i < size; i++) {
                int b = source.byteOf(value, i);
                if (b == '(') {
                    depth++;
                } else if (b == ')') {
                    depth--;
                }
                if (depth == 0) {
                    break;
                }
                if (b == '\\') {
                    i++;
                }
                putWithin(i, size);
            }
            if (kept) {
                close(COMMENT);
            } else {
                texts.dropOpen();
            }
            return i + 1;
        }

        private int cutEnclosed(int start, int size, int last, int kind) {
            int i = start;
            for (; i < size; i++) {
                int b = source.byteOf(value, i);
                if (b == last) {
                    break;
                }
                if (b == '\\') {
                    i++;
                }
                putWithin(i, size);
            }
            close(kind);
            return i + 1;
        }

        private int cutAtom(int start, int size) {
            int i = start;
            for (; i < size; i++) {
                int b = source.byteOf(value, i);
                if (isNothing(b) || isSign(b) || b == '(' || b == '"' || b == '[') {
                    break;
                }
                texts.put(b);
            }
            close(ATOM);
            return i;
        }

        // A \ that is the VALUE's last byte has no byte behind it to take.
        private void putWithin(int i, int size) {
            if (i < size) {
                texts.put(source.byteOf(value, i));
            }
        }

        private void close(int kind) {
            texts.close();
            kinds.add(kind);
        }

        private boolean isSign(int b) {
            return signs.indexOf((char) b) >= 0;
        }

        private static boolean isNothing(int b) {
            return b <= 32 || b == 127;
        }
    }

    /** The ADDRESSES that were read last: each MAILBOX's TITLE, LOCAL and DOMAIN are three texts. */
    private static final class Addresses {
        private final Words words;
        private final Texts texts;
        private final Row groups;
        private final Texts groupNames;
        private final Row gathered;
        private int badOnes;
        private int groupNow;
        private int comment;

        Addresses(Words wordsOfValue) {
            words = wordsOfValue;
            texts = new Texts();
            groups = new Row();
            groupNames = new Texts();
            gathered = new Row();
            badOnes = 0;
            groupNow = NONE;
            comment = NONE;
        }

        Texts texts() {
            return texts;
        }

        Texts groupNames() {
            return groupNames;
        }

        int count() {
            return groups.size();
        }

        int badOnes() {
            return badOnes;
        }

        int groupOf(int mailbox) {
            return groups.get(mailbox);
        }

        int textOf(int mailbox, int what) {
            return mailbox >= 0 && mailbox < count() ? 3 * mailbox + what : NONE;
        }

        void readWords() {
            texts.clear();
            groups.cutTo(0);
            groupNames.clear();
            badOnes = 0;
            groupNow = NONE;
            beginGathering();
            boolean angled = false;
            for (int word = 0; word < words.kinds().size(); word++) {
                int kind = words.kinds().get(word);
                if (kind == Words.COMMENT) {
                    comment = gathered.size() > 0 ? word : NONE;
                } else if (!angled && (kind == ',' || kind == ';' || kind == ':')) {
                    takeGathered(kind);
                } else {
                    gathered.add(word);
                    angled = kind == '<' || (angled && kind != '>');
                }
            }
            takeGathered(',');
        }

        private void beginGathering() {
            gathered.cutTo(0);
            comment = NONE;
        }

        private void takeGathered(int sign) {
            if (sign == ':') {
                takeColon();
            } else if (gathered.size() > 0 && !takeMailbox()) {
                badOnes++;
            }
            if (sign == ';') {
                groupNow = NONE;
            }
            beginGathering();
        }

        private void takeColon() {
            if (groupNow != NONE) {
                badOnes++;
                return;
            }
            groupNow = groupNames.count();
            if (isName(gathered.size())) {
                putName(groupNames, gathered.size());
            } else {
                badOnes++;
            }
            groupNames.close();
        }

        /** Answers whether what was gathered is a MAILBOX. */
        private boolean takeMailbox() {
            int open = firstOpen();
            int from = 0;
            int to = gathered.size();
            if (open != NONE) {
                to--;
                if (kindAt(to) != '>' || !isName(open)) {
                    return false;
                }
                from = behindRoute(open + 1, to);
            }
            int localEnd = dottedEnd(from, to, true);
            if (localEnd == NONE || localEnd < to && !isDomainBehind(localEnd, to)) {
                return false;
            }
            if (open > 0) {
                putName(texts, open);
            } else {
                texts.putText(words.texts(), comment);
            }
            texts.close();
            putWords(from, localEnd);
            putWords(localEnd + 1, to);
            groups.add(groupNow);
            return true;
        }

        private int kindAt(int i) {
            return words.kinds().get(gathered.get(i));
        }

        private int firstOpen() {
            for (int i = 0; i < gathered.size(); i++) {
                if (kindAt(i) == '<') {
                    return i;
                }
            }
            return NONE;
        }

        private boolean isName(int to) {
            for (int i = 0; i < to; i++) {
                int kind = kindAt(i);
                if (kind != Words.ATOM && kind != Words.QUOTED && kind != '.') {
                    return false;
                }
            }
            return true;
        }

        private int behindRoute(int from, int to) {
            for (int i = from; i < to; i++) {
                int kind = kindAt(i);
                if (kind == ':') {
                    return i + 1;
                }
                if (kind != '@' && kind != ',' && kind != '.' && kind != Words.ATOM) {
                    return from;
                }
            }
            return from;
        }

        /** Where the words with . between that begin here end; NONE if a word is missing. */
        private int dottedEnd(int from, int to, boolean quotedToo) {
            for (int i = from; i < to; i += 2) {
                int kind = kindAt(i);
                if (kind != Words.ATOM && !(quotedToo && kind == Words.QUOTED)) {
                    return NONE;
                }
                if (i + 1 >= to || kindAt(i + 1) != '.') {
                    return i + 1;
                }
            }
            return NONE;
        }

        private boolean isDomainBehind(int sign, int to) {
            int from = sign + 1;
            if (kindAt(sign) != '@') {
                return false;
            }
            if (to - from == 1 && kindAt(from) == Words.LITERAL) {
                return true;
            }
            return dottedEnd(from, to, false) == to;
        }

        private void putName(Texts to, int end) {
            for (int i = 0; i < end; i++) {
                if (i > 0 && kindAt(i) != '.') {
                    to.put(32);
                }
                to.putText(words.texts(), gathered.get(i));
            }
        }

        private void putWords(int from, int to) {
            for (int i = from; i < to; i++) {
                boolean literal = kindAt(i) == Words.LITERAL;
                if (literal) {
                    texts.put('[');
                }
                texts.putText(words.texts(), gathered.get(i));
                if (literal) {
                    texts.put(']');
                }
            }
            texts.close();
        }
    }

    /** The IDENTITIES that were read last. */
    private static final class Identities {
        private static final int SIZE_LIMIT = 100;

        private final Texts texts;

        Identities() {
            texts = new Texts();
        }

        Texts texts() {
            return texts;
        }

        void readBytes(Texts source, int value) {
            texts.clear();
            int size = source.sizeOf(value);
            int open = NONE;
            for (int i = 0; i < size; i++) {
                int b = source.byteOf(value, i);
                if (open == NONE && b == '<') {
                    open = i;
                } else if (open != NONE && b == '>') {
                    takeBetween(source, value, open + 1, i);
                    open = NONE;
                }
            }
        }

        private void takeBetween(Texts source, int value, int from, int to) {
            if (to <= from || to - from > SIZE_LIMIT) {
                return;
            }
            for (int i = from; i < to; i++) {
                int b = source.byteOf(value, i);
                if (isBlank(b)) {
                    texts.dropOpen();
                    return;
                }
                texts.put(b);
            }
            texts.close();
        }
    }

    /** Reads a DATE word by word; what is missing is NONE, and makes the whole none. */
    private static final class DateReader {
        private static final long NO_DATE = Long.MIN_VALUE;
        private static final String MONTHS = "janfebmaraprmayjunjulaugsepoctnovdec";
        private static final int[] MONTH_DAYS = {31, 28, 31, 30, 31, 30, 31, 31, 30, 31, 30, 31};
        // UT and GMT need no place here: they are 0 as any name is that is not known.
        private static final String ZONES = "estedtcstcdtmstmdtpstpdt";
        private static final int[] ZONE_HOURS = {-5, -4, -6, -5, -7, -6, -8, -7};

        private final Words words;
        private int place;

        DateReader(Words wordsOfValue) {
            words = wordsOfValue;
            place = 0;
        }

        long seconds() {
            boolean weekday = words.kinds().get(0) == Words.ATOM && words.kinds().get(1) == ',';
            place = weekday ? 2 : 0;
            int day = takeNumber(1, 2);
            int month = takeMonth();
            int year = takeYear();
            int hour = takeNumber(2, 2);
            boolean parted = takeColon();
            int minute = takeNumber(2, 2);
            int second = takeColon() ? takeNumber(2, 2) : 0;
            boolean timed = parted && isBelow(hour, 24) && isBelow(minute, 60) && isBelow(second, 61);
            if (!timed || !isDay(year, month, day)) {
                return NO_DATE;
            }
            long hours = 24L * daysSince1970(year, month, day) + hour;
            return 60 * (60 * hours + minute) + second - zoneSeconds();
        }

        private int takeNumber(int least, int most) {
            int size = words.texts().sizeOf(place);
            if (words.kinds().get(place) != Words.ATOM || size < least || size > most) {
                return NONE;
            }
            int number = digits(0, size);
            place++;
            return number;
        }

        private int takeMonth() {
            int month = words.kinds().get(place) == Words.ATOM ? threeLetters(MONTHS) : NONE;
            place++;
            return month;
        }

        private int takeYear() {
            int size = words.texts().sizeOf(place);
            int year = takeNumber(2, 9);
            if (year == NONE || size > 3) {
                return year;
            }
            return size == 2 && year < 50 ? 2000 + year : 1900 + year;
        }

        private boolean takeColon() {
            boolean there = words.kinds().get(place) == ':';
            if (there) {
                place++;
            }
            return there;
        }

        /** The number that these bytes of the word tell (nine at most); NONE if one is no digit. */
        private int digits(int from, int to) {
            int number = 0;
            for (int i = from; i < to; i++) {
                int digit = digit(words.texts().byteOf(place, i));
                if (digit == NONE) {
                    return NONE;
                }
                number = 10 * number + digit;
            }
            return number;
        }

        /** The number, from 0 on, of the three letters in the list with which the word begins; or NONE. */
        private int threeLetters(String list) {
            for (int i = 0; i + 2 < list.length(); i += 3) {
                if (isLetter(0, list.charAt(i)) && isLetter(1, list.charAt(i + 1)) && isLetter(2, list.charAt(i + 2))) {
                    return i / 3;
                }
            }
            return NONE;
        }

        private boolean isLetter(int i, int letter) {
            return small(words.texts().byteOf(place, i)) == letter;
        }

        private int zoneSeconds() {
            int size = words.texts().sizeOf(place);
            if (words.kinds().get(place) != Words.ATOM) {
                return 0;
            }
            if (size == 3) {
                int zone = threeLetters(ZONES);
                return zone >= 0 && zone < ZONE_HOURS.length ? 3600 * ZONE_HOURS[zone] : 0;
            }
            return size == 5 ? signedZone(words.texts().byteOf(place, 0)) : 0;
        }

        private int signedZone(int sign) {
            int hours = digits(1, 3);
            int minutes = digits(3, 5);
            if (sign != '+' && sign != '-' || !isBelow(hours, 24) || !isBelow(minutes, 60)) {
                return 0;
            }
            int seconds = 60 * (60 * hours + minutes);
            return sign == '-' ? -seconds : seconds;
        }

        private static boolean isBelow(int number, int limit) {
            return number >= 0 && number < limit;
        }

        private static boolean isDay(int year, int month, int day) {
            return year >= 1900 && year <= 2999 && day >= 1 && day <= daysOf(year, month);
        }

        private static int daysOf(int year, int month) {
            if (month < 0 || month >= MONTH_DAYS.length) {
                return 0;
            }
            boolean leap = year % 4 == 0 && (year % 100 != 0 || year % 400 == 0);
            return month == 1 && leap ? 29 : MONTH_DAYS[month];
        }

        private static int daysSince1970(int year, int month, int day) {
            int days = daysAhead(year) - daysAhead(1970) + day - 1;
            for (int m = 0; m < month; m++) {
                days += daysOf(year, m);
            }
            return days;
        }

        private static int daysAhead(int year) {
            int full = year - 1;
            return 365 * full + full / 4 - full / 100 + full / 400;
        }
    }

    /** The TYPE that was read last, its PARAMETERS, and the parameter in hand. */
    private static final class ContentType {
        private static final int LAST_PIECE = 9;

        private final Words words;
        private final Texts parts;
        private final Texts names;
        private final Texts values;
        private final Row pieces;
        private final Row codes;
        // Its CHARSET, then its bytes; a copy, since only parameter() puts another one in hand.
        private final Texts hand;

        ContentType(Words wordsOfValue) {
            words = wordsOfValue;
            parts = new Texts();
            names = new Texts();
            values = new Texts();
            pieces = new Row();
            codes = new Row();
            hand = new Texts();
        }

        Texts parts() {
            return parts;
        }

        boolean readWords() {
            parts.clear();
            names.clear();
            values.clear();
            pieces.cutTo(0);
            codes.cutTo(0);
            if (words.kinds().get(0) != Words.ATOM || words.kinds().get(1) != '/' || words.kinds().get(2) != Words.ATOM) {
                return false;
            }
            takePart(0);
            takePart(2);
            for (int i = 3; i < words.kinds().size(); i++) {
                if (words.kinds().get(i) == ';') {
                    takeParameter(i + 1);
                }
            }
            return true;
        }

        private void takePart(int word) {
            parts.putSmall(words.texts(), word, words.texts().sizeOf(word));
            parts.close();
        }

        private void takeParameter(int word) {
            int kind = words.kinds().get(word + 2);
            boolean valued = kind == Words.ATOM || kind == Words.QUOTED;
            if (words.kinds().get(word) != Words.ATOM || words.kinds().get(word + 1) != '=' || !valued) {
                return;
            }
            Texts from = words.texts();
            int size = from.sizeOf(word);
            boolean coded = from.byteOf(word, size - 1) == '*';
            if (coded) {
                size--;
            }
            int piece = from.byteOf(word, size - 2) == '*' ? digit(from.byteOf(word, size - 1)) : NONE;
            if (piece != NONE) {
                size -= 2;
            }
            if (size <= 0) {
                return;
            }
            names.putSmall(from, word, size);
            names.close();
            values.putText(from, word + 2);
            values.close();
            pieces.add(piece);
            codes.add(coded ? 1 : 0);
        }

        /** Answers how many bytes the parameter of this name has; NONE if there is none. */
        int takeInHand(Row name) {
            hand.clear();
            int first = firstOf(name, NONE);
            boolean inPieces = first == NONE;
            if (inPieces) {
                first = firstOf(name, 0);
            }
            if (first == NONE) {
                return NONE;
            }
            putBytes(first, putCharset(first));
            for (int piece = 1; inPieces && piece <= LAST_PIECE; piece++) {
                int next = firstOf(name, piece);
                if (next == NONE) {
                    break;
                }
                putBytes(next, 0);
            }
            hand.close();
            return hand.sizeOf(1);
        }

        int byteInHand(boolean charset, int i) {
            return hand.byteOf(charset ? 0 : 1, i);
        }

        private int firstOf(Row name, int piece) {
            for (int i = 0; i < names.count(); i++) {
                if (pieces.get(i) == piece && names.isNamed(i, name)) {
                    return i;
                }
            }
            return NONE;
        }

        /** Answers where the bytes behind CHARSET and LANGUAGE begin. */
        private int putCharset(int parameter) {
            int first = codes.get(parameter) == 1 ? quoteFrom(parameter, 0) : NONE;
            int second = first != NONE ? quoteFrom(parameter, first + 1) : NONE;
            if (second != NONE) {
                hand.putSmall(values, parameter, first);
            }
            hand.close();
            return second != NONE ? second + 1 : 0;
        }

        private int quoteFrom(int parameter, int from) {
            int size = values.sizeOf(parameter);
            for (int i = from; i < size; i++) {
                if (values.byteOf(parameter, i) == '\'') {
                    return i;
                }
            }
            return NONE;
        }

        private void putBytes(int parameter, int from) {
            boolean coded = codes.get(parameter) == 1;
            int size = values.sizeOf(parameter);
            for (int i = from; i < size; i++) {
                int b = values.byteOf(parameter, i);
                int byteTold = coded && b == '%' ? hexadecimal(parameter, i + 1) : NONE;
                if (byteTold == NONE) {
                    hand.put(b);
                } else {
                    hand.put(byteTold);
                    i += 2;
                }
            }
        }

        private int hexadecimal(int parameter, int at) {
            int high = hexDigit(values.byteOf(parameter, at));
            int low = hexDigit(values.byteOf(parameter, at + 1));
            return high == NONE || low == NONE ? NONE : 16 * high + low;
        }

        private static int hexDigit(int b) {
            int letter = small(b);
            return letter >= 'a' && letter <= 'f' ? letter - 'a' + 10 : digit(b);
        }
    }
}
