import java.time.LocalDate;
import java.time.ZoneOffset;

/** Promise 11: dates. */
public final class DateTest {
    private static final long NO_DATE = Long.MIN_VALUE;
    private static final long NEW_YEAR = seconds(2000, 1, 1);

    public static void main(String[] args) {
        shapes();
        days();
        years();
        times();
        zones();
        outOfBounds();
        Check.done();
    }

    private static long seconds(int year, int month, int day) {
        return LocalDate.of(year, month, day).atStartOfDay().toEpochSecond(ZoneOffset.UTC);
    }

    private static void due(String value, long want) {
        Check.same("date of " + value, Check.value(value).date(0), want);
    }

    private static void shapes() {
        due("1 Jan 2000 00:00", NEW_YEAR);
        due(" (a)Sat(b),(c)01(d)JANUARY(e)2000(f)00(g):(h)00(i):(j)00(k)GMT(l)", NEW_YEAR);
        due("x,1 jAnx 2000 00 : 00", NEW_YEAR);
        due("1, 1 Jan 2000 00:00", NEW_YEAR);
        due("1 Jan 2000 00:00 +0000 \"junk", NEW_YEAR);
        due("1\u00011\u0001Jan", NO_DATE);
        due("1\u0001Jan\u007f2000\u000000:00", NEW_YEAR);
        due("", NO_DATE);
        due(",", NO_DATE);
        due(", 1 Jan 2000 00:00", NO_DATE);
        due("Sat 1 Jan 2000 00:00", NO_DATE);
        due("\"Sat\", 1 Jan 2000 00:00", NO_DATE);
        due("Sat,, 1 Jan 2000 00:00", NO_DATE);
        due("\"1\" Jan 2000 00:00", NO_DATE);
        due("1 \"Jan\" 2000 00:00", NO_DATE);
        due("1 Jan \"2000\" 00:00", NO_DATE);
        due("1 Jan 2000 \"00\":00", NO_DATE);
        due("1 Jan. 2000 00:00", NO_DATE);
        due("1 Jan 2000", NO_DATE);
        due("1 Jan 2000 00", NO_DATE);
        due("1 Jan 2000 00:", NO_DATE);
        due("1 Jan 2000 00.00", NO_DATE);
        due("1 Jan 2000, 00:00", NO_DATE);
        due("1-Jan-2000 00:00", NO_DATE);
    }

    private static void days() {
        String[] names = {"jan", "FEB", "Mar", "aPr", "maY", "June", "JULY", "august", "sept", "oct", "nov", "dec"};
        for (int month = 1; month <= 12; month++) {
            for (int year : new int[] {1900, 1970, 1999, 2000, 2004, 2026, 2100, 2999}) {
                int last = LocalDate.of(year, month, 1).lengthOfMonth();
                String behind = " " + names[month - 1] + " " + year + " 00:00";
                due("1" + behind, seconds(year, month, 1));
                due(last + behind, seconds(year, month, last));
                due((last + 1) + behind, NO_DATE);
            }
        }
        due("0 Jan 2000 00:00", NO_DATE);
        due("00 Jan 2000 00:00", NO_DATE);
        due("001 Jan 2000 00:00", NO_DATE);
        due("+1 Jan 2000 00:00", NO_DATE);
        due("1 Ja 2000 00:00", NO_DATE);
        due("1 Jxn 2000 00:00", NO_DATE);
        due("1 anf 2000 00:00", NO_DATE);
        due("1 01 2000 00:00", NO_DATE);
    }

    private static void years() {
        due("1 Jan 0 00:00", NO_DATE);
        due("1 Jan 00 00:00", seconds(2000, 1, 1));
        due("1 Jan 49 00:00", seconds(2049, 1, 1));
        due("1 Jan 50 00:00", seconds(1950, 1, 1));
        due("1 Jan 99 00:00", seconds(1999, 1, 1));
        due("1 Jan 000 00:00", seconds(1900, 1, 1));
        due("1 Jan 049 00:00", seconds(1949, 1, 1));
        due("1 Jan 999 00:00", seconds(2899, 1, 1));
        due("1 Jan 1899 00:00", NO_DATE);
        due("1 Jan 1900 00:00", seconds(1900, 1, 1));
        due("1 Jan 3000 00:00", NO_DATE);
        due("1 Jan 0026 00:00", NO_DATE);
        due("1 Jan 000002026 00:00", seconds(2026, 1, 1));
        due("1 Jan 0000002026 00:00", NO_DATE);
        due("1 Jan 999999999 00:00", NO_DATE);
        due("1 Jan 99999999999999999999 00:00", NO_DATE);
        due("1 Jan 200x 00:00", NO_DATE);
        due("29 Feb 1900 00:00", NO_DATE);
        due("29 Feb 00 00:00", seconds(2000, 2, 29));
    }

    private static void times() {
        due("1 Jan 2000 23:59:60", NEW_YEAR + 86400);
        due("1 Jan 2000 23:59", NEW_YEAR + 86340);
        due("1 Jan 2000 01:02:03", NEW_YEAR + 3723);
        due("1 Jan 2000 24:00", NO_DATE);
        due("1 Jan 2000 00:60", NO_DATE);
        due("1 Jan 2000 00:00:61", NO_DATE);
        due("1 Jan 2000 1:00", NO_DATE);
        due("1 Jan 2000 01:0", NO_DATE);
        due("1 Jan 2000 01:00:0", NO_DATE);
        due("1 Jan 2000 01:00:", NO_DATE);
        due("1 Jan 2000 01:00:xx", NO_DATE);
        due("1 Jan 2000 001:00", NO_DATE);
        due("1 Jan 2000 01:001", NO_DATE);
        due("1 Jan 2000 01:00:001", NO_DATE);
        due("1 Jan 2000 -1:00", NO_DATE);
    }

    private static void zones() {
        String time = "1 Jan 2000 00:00 ";
        String[] names = {"UT", "GMT", "EST", "EDT", "CST", "CDT", "MST", "MDT", "PST", "PDT"};
        int[] hours = {0, 0, -5, -4, -6, -5, -7, -6, -8, -7};
        for (int i = 0; i < names.length; i++) {
            due(time + names[i], NEW_YEAR - 3600L * hours[i]);
            due(time + names[i].toLowerCase(), NEW_YEAR - 3600L * hours[i]);
            due(time + names[i] + "x", NEW_YEAR);
            due(time + "\"" + names[i] + "\"", NEW_YEAR);
        }
        due(time + "+0130", NEW_YEAR - 5400);
        due(time + "-0130", NEW_YEAR + 5400);
        due(time + "+2359", NEW_YEAR - 86340);
        due(time + "-2359", NEW_YEAR + 86340);
        due(time + "-0000", NEW_YEAR);
        due(time + "+2400", NEW_YEAR);
        due(time + "+0060", NEW_YEAR);
        due(time + "0130", NEW_YEAR);
        due(time + "*0130", NEW_YEAR);
        due(time + "+013", NEW_YEAR);
        due(time + "+01300", NEW_YEAR);
        due(time + "+ 0130", NEW_YEAR);
        due(time + "+01x0", NEW_YEAR);
        due(time + "x EST", NEW_YEAR);
        due(time + ". EST", NEW_YEAR);
        due(time + "(x) EST", NEW_YEAR + 18000);
        due("1 Jan 2000 00:00:00EST", NO_DATE);
        due("1 Jan 70 00:00 +0001", -60);
    }

    private static void outOfBounds() {
        MailHeads mail = Check.value("1 Jan 2000 00:00");
        for (int field : new int[] {-1, 1, 1 << 31, Integer.MAX_VALUE}) {
            Check.throwsOutOfBounds("date(" + field + ")", () -> mail.date(field));
        }
    }
}
