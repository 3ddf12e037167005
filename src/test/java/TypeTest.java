/** Promises 12, 14, 15, 16 and 17: types and their parameters. */
public final class TypeTest {
    private static final int NONE = MailHeads.NONE;

    public static void main(String[] args) {
        types();
        parameters();
        names();
        pieces();
        coded();
        charsets();
        hand();
        many();
        outOfBounds();
        Check.done();
    }

    private static void dueType(String value, String want) {
        MailHeads mail = Check.value("a/b;x=y");
        mail.type(0);
        Check.tape(mail, "X:" + value);
        mail.read();
        boolean is = mail.type(0);
        Check.same("type of " + value, is ? Check.text(mail, 5, 0) + "/" + Check.text(mail, 6, 0) : null, want);
        if (!is) {
            Check.same("first part of none", mail.length(5, 0), NONE);
            Check.same("second part of none", mail.length(6, 0), NONE);
            Check.same("parameter of none", Check.parameter(mail, "x"), null);
        }
        for (int k : new int[] {-1, 1, -5, Integer.MAX_VALUE}) {
            Check.same("length(5, " + k + ")", mail.length(5, k), NONE);
            Check.same("at(6, " + k + ", 0)", mail.at(6, k, 0), NONE);
        }
    }

    private static void due(String behind, String want) {
        due("n", behind, want);
    }

    private static void due(String name, String behind, String want) {
        Check.same("parameter " + name + " of a/b" + behind, Check.parameterOf(behind, name), want);
    }

    private static void types() {
        dueType(" Text/X-My.Type[", "text/x-my.type");
        dueType("(c) TEXT (d) / (e) PLAIN (f)", "text/plain");
        dueType("a/b junk", "a/b");
        dueType("a/b/c", "a/b");
        dueType("a/b;", "a/b");
        dueType("\u00c4\u00e4/.", "\u00c4\u00e4/.");
        dueType("", null);
        dueType("a", null);
        dueType("a/", null);
        dueType("/b", null);
        dueType("a b", null);
        dueType("a/;x=y", null);
        dueType("\"a\"/b;x=y", null);
        dueType("a/\"b\";x=y", null);
        dueType("a.b;x=y", null);
        dueType("; a/b;x=y", null);
    }

    private static void parameters() {
        due(";n=v", "'v");
        due(" ; n = \"v w\" ", "'v w");
        due(" (c) ; (d) n (e) = (f) v (g)", "'v");
        due(";N=V", "'V");
        due("n=v", null);
        due(" n=v;n=w", "'w");
        due(" n=v", null);
        due("", null);
        due(";n=", null);
        due(";n", null);
        due(";=v", null);
        due(";\"n\"=v", null);
        due(";n=[v]", null);
        due(";n==v", null);
        due(";x n=v", null);
        due(";n=;n=w", "'w");
        due(";;;x;x=;=x;n=v;", "'v");
        due(";n=v junk;n=w", "'v");
        due(";x=y n=v;n=w", "'w");
        due(";x=\";n=v\";n=w", "'w");
        due(";x=y (;n=v);n=w", "'w");
        due(";x=[;n=v];n=w", "'w");
        due(";n=a.b*c'd%41", "'a.b*c'd%41");
        due(";n=a/b", "'a");
        due(";n=\"a\\\"b\\\\c\"d", "'a\"b\\c");
        due(";n=\"a", "'a");
        due(";n=\"\"", "'");
        due(";n=v;n=w", "'v");
        due("<>:@,)]\\;n=v", "'v");
        due(",n=v;n=w", "'w");
    }

    private static void names() {
        due("NaMe", ";nAmE=v", "'v");
        due("n", ";nn=v", null);
        due("nn", ";n=v", null);
        due("", ";n=v;*=w;*0=x;*0*=y", null);
        due("*", ";*=v", null);
        due("*0", ";*0=v", null);
        due("*0*", ";*0*=v", null);
        due("0", ";0=v", "'v");
        due("n*0", ";n*0=v", null);
        due("n*", ";n*=v", null);
        due("n*10", ";n*10=v", "'v");
        due("n", ";n*10=v", null);
        due("n*10", ";n*10*=%41", "'A");
        due("n*", ";n**=%41", "'A");
        due("n*x", ";n*x=%41", "'%41");
        due("n.x", ";n.x=v", "'v");
        due("n0", ";n0=v", "'v");
        due("a*0", ";a*0*1=v;a*0*0=u", "'uv");
    }

    private static void pieces() {
        due(";n*0=a", "'a");
        due(";n*1=b;n*0=a;n*2=c", "'abc");
        due(";n*0=a;n*2=c", "'a");
        due(";n*1=b", null);
        due(";n*0=a;n*0=x;n*1=b;n*1*=y", "'ab");
        due(";n*0=a;n*1=b;n=c", "'c");
        due(";n*0=a;n*1=b;n*=c", "'c");
        due(";n*=c;n=d", "'c");
        due(";n*0=0;n*1=1;n*2=2;n*3=3;n*4=4;n*5=5;n*6=6;n*7=7;n*8=8;n*9=9;n*10=x", "'0123456789");
        due(";n*0=\"\";n*1=\"b c\"", "'b c");
        due(";N*0=a;n*1=b", "'ab");
        due(";n=c;n*0=a", "'c");
    }

    private static void coded() {
        due(";n*=%41%4a%4A%zz%4", "'AJJ%zz%4");
        due(";n*=%", "'%");
        due(";n*=%2541", "'%41");
        due(";n*=%%41", "'%A");
        due(";n*=\"%41 %00%ff\"", "'A \u0000\u00ff");
        due(";n=%41", "'%41");
        due(";n*0=%41;n*1*=%41;n*2=%41", "'%41A%41");
        due(";n*0*=%4;n*1*=1", "'%41");
        due(";n*=%4g%g4%:", "'%4g%g4%");
    }

    private static void charsets() {
        due(";n*=UTF-8'EN'%41B", "utf-8'AB");
        due(";n*=''v", "'v");
        due(";n*='v", "''v");
        due(";n*=u'v", "'u'v");
        due(";n*=u'v'", "u'");
        due(";n*=u'v'w'x", "u'w'x");
        due(";n=u'v'w", "'u'v'w");
        due(";n*0*=U'v'w;n*1*=x'y'z", "u'wx'y'z");
        due(";n*0=u'v'w;n*1*=x'y'%41", "'u'v'wx'y'A");
        due(";n*0=w;n*1*=x", "'wx");
        due(";n*=\"A B'c'd\"", "a b'd");
        due(";n*=u%27v'w", "'u'v'w");
        due(";n*1*=x'y'z;n*0*=A'b'c", "a'cx'y'z");
    }

    private static void hand() {
        MailHeads mail = Check.head("A: a/b; x*=U'l'v; y=w\nB: c/d; x=z");
        mail.type(0);
        Check.same("nothing in hand", mail.parameterByte(false, 0), NONE);
        Check.same("x", Check.parameter(mail, "x"), "v");
        Check.same("x's charset", Check.inHand(mail, true), "u");
        Check.same("y", Check.parameter(mail, "Y"), "w");
        Check.same("y's charset", Check.inHand(mail, true), "");
        Check.same("behind the end", mail.parameterByte(false, 1), NONE);
        Check.same("far behind the end", mail.parameterByte(false, Integer.MAX_VALUE), NONE);
        Check.same("far ahead of the start", mail.parameterByte(true, Integer.MIN_VALUE), NONE);
        mail.type(1);
        Check.same("y is still in hand", Check.inHand(mail, false), "w");
        Check.same("x of the TYPE that was read last", Check.parameter(mail, "x"), "z");
        mail.read();
        Check.same("x behind read()", Check.inHand(mail, false), "z");
        Check.same("x again, behind read()", Check.parameter(mail, "x"), "z");
        Check.tape(mail, "A: a/b; n*0*=v; n*1=w\nB: a/b; n*1=%41; n*0*=%41");
        mail.read();
        mail.type(0);
        mail.type(1);
        Check.same("n, with nothing left of the TYPE ahead", Check.parameter(mail, "n"), "A%41");
        Check.same("no q", Check.parameter(mail, "q"), null);
        Check.same("nothing in hand then", mail.parameterByte(false, 0), NONE);
    }

    private static void many() {
        MailHeads mail = Check.value("a/b" + ";c=d".repeat(372) + ";n=v");
        Check.same("many parameters", mail.type(0) ? 1 : 0, 1);
        Check.same("the last one", Check.parameter(mail, "n"), "v");
        mail = Check.value("a/b;n=" + "v".repeat(1489) + "w");
        mail.type(0);
        Check.tape(mail, "n");
        Check.same("a long one", mail.parameter(), 1490);
        Check.same("its last byte", mail.parameterByte(false, 1489), 'w');
    }

    private static void outOfBounds() {
        MailHeads mail = Check.value("a/b;n=v");
        mail.type(0);
        for (int field : new int[] {-1, 1, 1 << 31, Integer.MAX_VALUE}) {
            Check.throwsOutOfBounds("type(" + field + ")", () -> mail.type(field));
        }
        Check.same("what was read stays", Check.text(mail, 6, 0), "b");
        Check.same("its parameters, too", Check.parameter(mail, "n"), "v");
    }
}
