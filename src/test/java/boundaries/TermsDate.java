import java.time.LocalDate;
import java.time.Year;
import java.time.ZoneOffset;

/** Boundary cases of the words ahead of the promises: DATE. */
public final class TermsDate {
    private static final long NO_DATE = Long.MIN_VALUE;
    private static final String[] MONTHS = {"Jan", "Feb", "Mar", "Apr", "May", "Jun", "Jul", "Aug", "Sep", "Oct", "Nov",
        "Dec"};
    private static final long NEW_YEAR = seconds(2000, 1, 1);

    public static void main(String[] args) {
        Check.part("the words ahead, DATE ahead of the day");
        weekdays();
        Check.part("the words ahead, DATE's day");
        days();
        Check.part("the words ahead, DATE's month");
        months();
        Check.part("the words ahead, DATE's year");
        years();
        Check.part("the words ahead, DATE's time");
        times();
        Check.part("the words ahead, DATE's ZONE");
        zones();
        zonesInDigits();
        Check.part("the words ahead, DATE, what is missing");
        missing();
        Check.done();
    }

    private static long seconds(int year, int month, int day) {
        return LocalDate.of(year, month, day).atStartOfDay().toEpochSecond(ZoneOffset.UTC);
    }

    private static void due(String value, long want) {
        Check.same("date of " + value, Check.value(value).date(0), want);
    }

    private static void weekdays() {
        due("x,1 Jan 2000 00:00", NEW_YEAR);
        due("1,1 Jan 2000 00:00", NEW_YEAR);
        due("Sat ( x ) , 1 Jan 2000 00:00", NEW_YEAR);
        due(",1 Jan 2000 00:00", NO_DATE);
        due("Sat 1 Jan 2000 00:00", NO_DATE);
        due("Sat,,1 Jan 2000 00:00", NO_DATE);
        due("Sat,x,1 Jan 2000 00:00", NO_DATE);
        due("Sat x,1 Jan 2000 00:00", NO_DATE);
        due("\"Sat\",1 Jan 2000 00:00", NO_DATE);
        due("[Sat],1 Jan 2000 00:00", NO_DATE);
        due("Sat;1 Jan 2000 00:00", NO_DATE);
    }

    private static void days() {
        due("1 Jan 2000 00:00", NEW_YEAR);
        due("01 Jan 2000 00:00", NEW_YEAR);
        due("9 Jan 2000 00:00", NEW_YEAR + 8 * 86400);
        due("10 Jan 2000 00:00", NEW_YEAR + 9 * 86400);
        due("0 Jan 2000 00:00", NO_DATE);
        due("00 Jan 2000 00:00", NO_DATE);
        due("001 Jan 2000 00:00", NO_DATE);
        due("99 Jan 2000 00:00", NO_DATE);
        due("1x Jan 2000 00:00", NO_DATE);
        due("x1 Jan 2000 00:00", NO_DATE);
        due("-1 Jan 2000 00:00", NO_DATE);
        due("1/ Jan 2000 00:00", NO_DATE);
        due("1; Jan 2000 00:00", NO_DATE);
        due("\"1\" Jan 2000 00:00", NO_DATE);
        for (int month = 1; month <= 12; month++) {
            for (int year : new int[] {1900, 1999, 2000, 2024, 2100, 2999}) {
                int last = LocalDate.of(year, month, 1).lengthOfMonth();
                String behind = " " + MONTHS[month - 1] + " " + year + " 00:00";
                due(last + behind, seconds(year, month, last));
                due((last + 1) + behind, NO_DATE);
            }
        }
        for (int year = 1900; year <= 2999; year++) {
            due("29 Feb " + year + " 00:00", Year.isLeap(year) ? seconds(year, 2, 29) : NO_DATE);
            due("1 Mar " + year + " 00:00", seconds(year, 3, 1));
        }
    }

    private static void months() {
        for (int month = 1; month <= 12; month++) {
            String name = MONTHS[month - 1];
            long want = seconds(2001, month, 1);
            due("1 " + name + " 2001 00:00", want);
            due("1 " + name.toLowerCase() + " 2001 00:00", want);
            due("1 " + name.toUpperCase() + " 2001 00:00", want);
            due("1 " + name + "x 2001 00:00", want);
            due("1 " + name + "1999 2001 00:00", want);
            due("1 " + name.substring(0, 2) + " 2001 00:00", NO_DATE);
            due("1 x" + name + " 2001 00:00", NO_DATE);
            due("1 \"" + name + "\" 2001 00:00", NO_DATE);
            due("1 " + name + ". 2001 00:00", NO_DATE);
            for (int i = 0; i < 3; i++) {
                due("1 " + name.substring(0, i) + "?" + name.substring(i + 1) + " 2001 00:00", NO_DATE);
            }
        }
        due("1 01 2001 00:00", NO_DATE);
        due("1 J\u0041N 2001 00:00", seconds(2001, 1, 1));
        due("1 J\u0001AN 2001 00:00", NO_DATE);
    }

    private static void years() {
        due("1 Jan 0 00:00", NO_DATE);
        due("1 Jan 9 00:00", NO_DATE);
        due("1 Jan 00 00:00", seconds(2000, 1, 1));
        due("1 Jan 49 00:00", seconds(2049, 1, 1));
        due("1 Jan 50 00:00", seconds(1950, 1, 1));
        due("1 Jan 99 00:00", seconds(1999, 1, 1));
        due("1 Jan 000 00:00", seconds(1900, 1, 1));
        due("1 Jan 049 00:00", seconds(1949, 1, 1));
        due("1 Jan 100 00:00", seconds(2000, 1, 1));
        due("1 Jan 999 00:00", seconds(2899, 1, 1));
        due("1 Jan 0000 00:00", NO_DATE);
        due("1 Jan 0049 00:00", NO_DATE);
        due("31 Dec 1899 23:59:60", NO_DATE);
        due("31 Dec 1899 23:59 -0100", NO_DATE);
        due("1 Jan 1900 00:00", seconds(1900, 1, 1));
        due("1 Jan 1900 00:00 +2359", seconds(1900, 1, 1) - 86340);
        due("31 Dec 2999 23:59:60", seconds(2999, 12, 31) + 86400);
        due("31 Dec 2999 23:59:60 -2359", seconds(2999, 12, 31) + 86400 + 86340);
        due("1 Jan 3000 00:00", NO_DATE);
        due("1 Jan 3000 00:00 +0100", NO_DATE);
        due("1 Jan 02000 00:00", seconds(2000, 1, 1));
        due("1 Jan 10000 00:00", NO_DATE);
        due("1 Jan 000002000 00:00", seconds(2000, 1, 1));
        due("1 Jan 0000002000 00:00", NO_DATE);
        due("1 Jan 999999999 00:00", NO_DATE);
        due("1 Jan 4294969296 00:00", NO_DATE);
        due("1 Jan 18446744073709553616 00:00", NO_DATE);
        due("1 Jan 20x0 00:00", NO_DATE);
        due("1 Jan +200 00:00", NO_DATE);
        due("1 Jan \"2000\" 00:00", NO_DATE);
    }

    private static void times() {
        due("1 Jan 70 00:00", 0);
        due("1 Jan 70 00:00:00", 0);
        due("31 Dec 69 23:59:59", seconds(1970, 1, 1) - 1);
        due("1 Jan 2000 23:59", NEW_YEAR + 86340);
        due("1 Jan 2000 23:59:59", NEW_YEAR + 86399);
        due("1 Jan 2000 23:59:60", NEW_YEAR + 86400);
        due("1 Jan 2000 00:00:60", NEW_YEAR + 60);
        due("1 Jan 2000 01:02:03", NEW_YEAR + 3723);
        due("1 Jan 2000 24:00", NO_DATE);
        due("1 Jan 2000 00:60", NO_DATE);
        due("1 Jan 2000 00:00:61", NO_DATE);
        due("1 Jan 2000 99:00", NO_DATE);
        due("1 Jan 2000 00:99", NO_DATE);
        due("1 Jan 2000 00:00:99", NO_DATE);
        due("1 Jan 2000 1:00", NO_DATE);
        due("1 Jan 2000 01:0", NO_DATE);
        due("1 Jan 2000 01:00:0", NO_DATE);
        due("1 Jan 2000 001:00", NO_DATE);
        due("1 Jan 2000 01:000", NO_DATE);
        due("1 Jan 2000 01:00:000", NO_DATE);
        due("1 Jan 2000 0x:00", NO_DATE);
        due("1 Jan 2000 00:0x", NO_DATE);
        due("1 Jan 2000 00:00:0x", NO_DATE);
        due("1 Jan 2000 \"00\":00", NO_DATE);
        due("1 Jan 2000 00:\"00\"", NO_DATE);
        due("1 Jan 2000 00:00:\"00\"", NO_DATE);
        due("1 Jan 2000 00 00", NO_DATE);
        due("1 Jan 2000 00.00", NO_DATE);
        due("1 Jan 2000 0000", NO_DATE);
        due("1 Jan 2000 00::00", NO_DATE);
    }

    private static void zones() {
        String time = "1 Jan 2000 00:00 ";
        String[] names = {"UT", "GMT", "EST", "EDT", "CST", "CDT", "MST", "MDT", "PST", "PDT"};
        int[] hours = {0, 0, -5, -4, -6, -5, -7, -6, -8, -7};
        for (int i = 0; i < names.length; i++) {
            long want = NEW_YEAR - 3600L * hours[i];
            due(time + names[i], want);
            due(time + names[i].toLowerCase(), want);
            due("1 Jan 2000 00:00:00 " + names[i], want);
            due("1 Jan 2000 00:00:00 " + names[i] + " junk", want);
            due(time + names[i] + ".", want);
            due(time + names[i] + "x", NEW_YEAR);
            due(time + "x" + names[i], NEW_YEAR);
            due(time + names[i].substring(1), NEW_YEAR);
            due(time + names[i].substring(0, 2), NEW_YEAR);
        }
        due(time, NEW_YEAR);
        due(time + "Z", NEW_YEAR);
        due(time + "x EST", NEW_YEAR);
        due(time + ", EST", NEW_YEAR);
        due(time + "\"EST\"", NEW_YEAR);
        due(time + "[EST]", NEW_YEAR);
        due(time + "(x) EST", NEW_YEAR + 18000);
        due(time + "STE", NEW_YEAR);
    }

    private static void zonesInDigits() {
        String time = "1 Jan 2000 00:00 ";
        due(time + "+0000", NEW_YEAR);
        due(time + "-0000", NEW_YEAR);
        due(time + "+0001", NEW_YEAR - 60);
        due(time + "-0001", NEW_YEAR + 60);
        due(time + "+2359", NEW_YEAR - 86340);
        due(time + "-2359", NEW_YEAR + 86340);
        due(time + "+2400", NEW_YEAR);
        due(time + "-2400", NEW_YEAR);
        due(time + "+0060", NEW_YEAR);
        due(time + "-0160", NEW_YEAR);
        due(time + "+9999", NEW_YEAR);
        due(time + "+010", NEW_YEAR);
        due(time + "+01000", NEW_YEAR);
        due(time + "0100", NEW_YEAR);
        due(time + "*0100", NEW_YEAR);
        due(time + "+ 0100", NEW_YEAR);
        due(time + "+x100", NEW_YEAR);
        due(time + "+0x00", NEW_YEAR);
        due(time + "+01x0", NEW_YEAR);
        due(time + "+010x", NEW_YEAR);
        due(time + "\"+0100\"", NEW_YEAR);
        due(time + "+0100 -0100", NEW_YEAR - 3600);
    }

    private static void missing() {
        String[] words = {"1", "Jan", "2000", "00", ":", "00"};
        for (int left = 0; left < words.length; left++) {
            StringBuilder ahead = new StringBuilder();
            StringBuilder without = new StringBuilder();
            for (int i = 0; i < words.length; i++) {
                ahead.append(i < left ? words[i] + " " : "");
                without.append(i != left ? words[i] + " " : "");
            }
            due(ahead.toString(), NO_DATE);
            due("Sat, " + ahead, NO_DATE);
            due(without.toString(), NO_DATE);
            due("Sat, " + without, NO_DATE);
        }
        due("1 Jan 2000 00 : 00", NEW_YEAR);
        due("1 Jan 2000 00:00:", NO_DATE);
        due("", NO_DATE);
        due("(1 Jan 2000 00:00)", NO_DATE);
        due("Sat", NO_DATE);
        due("Sat,", NO_DATE);
    }
}
