/** Boundary cases of the words ahead of the promises: TYPE. */
public final class TermsType {
    public static void main(String[] args) {
        Check.part("the words ahead, TYPE's two parts");
        parts();
        Check.part("the words ahead, PARAMETER");
        parameters();
        Check.part("the words ahead, what is passed over");
        passedOver();
        Check.part("the words ahead, PARAMETER's name");
        names();
        Check.part("the words ahead, PIECE");
        pieces();
        Check.part("the words ahead, CODED");
        coded();
        anyDigits();
        Check.part("the words ahead, CHARSET");
        charsets();
        Check.done();
    }

    private static void dueType(String value, String want) {
        Check.same("type of " + value, Check.type(value), want);
    }

    private static void due(String behind, String want) {
        due("n", behind, want);
    }

    private static void due(String name, String behind, String want) {
        Check.same("parameter " + name + " of a/b" + behind, Check.parameterOf(behind, name), want);
    }

    private static void parts() {
        dueType("a/b", "a/b");
        dueType("AZ@", null);
        dueType("AZ/AZ", "az/az");
        dueType("`{/~^", "`{/~^");
        dueType("\u00c0/\u00de", "\u00c0/\u00de");
        dueType("a.b/c.d", "a.b/c.d");
        dueType(" a / b ", "a/b");
        dueType("(x)a(x)/(x)b(x)", "a/b");
        dueType("a/b/c", "a/b");
        dueType("a/b c", "a/b");
        dueType("", null);
        dueType("a", null);
        dueType("/", null);
        dueType("a/", null);
        dueType("/b", null);
        dueType("a b", null);
        dueType("a//b", null);
        dueType("a=b", null);
        dueType("a/=b", null);
        dueType("a x/b", null);
        dueType("\"a\"/b", null);
        dueType("a/\"b\"", null);
        dueType("a/[b]", null);
        dueType("a/;b", null);
        dueType(";a/b", null);
        dueType("(a/b)", null);
    }

    private static void parameters() {
        due(";n=v", "'v");
        due(" ; n = v ", "'v");
        due(";n=\"\"", "'");
        due(";n=\"", "'");
        due(";n=\"v", "'v");
        due(";n=\"v;w\"", "'v;w");
        due(";n=v", "'v");
        due("", null);
        due(";", null);
        due(";n", null);
        due(";n=", null);
        due(";=v", null);
        due(";=", null);
        due("n=v", null);
        due(" n=v", null);
        due(";n v", null);
        due(";n==v", null);
        due(";n=;", null);
        due(";n=[v]", null);
        due(";\"n\"=v", null);
        due(";[n]=v", null);
        due(";(n)=v", null);
        due(";n=(v)", null);
        due(";n/=v", null);
        due(";n=.", "'.");
        due(";n=V", "'V");
    }

    private static void passedOver() {
        due(";;n=v", "'v");
        due(";;;;n=v;;", "'v");
        due(" x y;n=v", "'v");
        due("/x;n=v", "'v");
        due(",;n=v", "'v");
        due(";x;n=v", "'v");
        due(";x=;n=v", "'v");
        due(";=;n=v", "'v");
        due(";n=;n=v", "'v");
        due(";n==w;n=v", "'v");
        due(";x y=z n=w;n=v", "'v");
        due(";x=y n=w;n=v", "'v");
        due(";x=y,n=w;n=v", "'v");
        due(";n=v w;n=x", "'v");
        due(";n=v/w", "'v");
        due(";n=v\"w\"", "'v");
        due(";n=\"v\"w", "'v");
        due(";n=v=w", "'v");
        due(";x=\";n=w\";n=v", "'v");
        due("(;n=w);n=v", "'v");
        due("[;n=w];n=v", "'v");
    }

    private static void names() {
        due("N", ";n=v", "'v");
        due("n", ";N=v", "'v");
        due("az{@", ";az{=v", null);
        due("AZ{", ";az[=v", null);
        due("n", ";nn=v", null);
        due("nn", ";n=v", null);
        due("", ";n=v", null);
        for (String none : new String[] {"*", "*0", "*9", "*0*", "*9*"}) {
            due("", ";" + none + "=v", null);
            due(none, ";" + none + "=v", null);
            due("*", ";" + none + "=v", null);
            due("n", ";" + none + "=v;n=w", "'w");
        }
        due("n*", ";n*=v", null);
        due("n*0", ";n*0=v", null);
        due("n*0*", ";n*0*=v", null);
        due("0", ";0=v", "'v");
        due("0", ";0*0=v", "'v");
        due("n0", ";n0=%41", "'%41");
        due("n*x", ";n*x=%41", "'%41");
        due("*n", ";*n=%41", "'%41");
    }

    private static void pieces() {
        due(";n*0=a", "'a");
        due(";n*1=b", null);
        due(";n*9=b", null);
        due(";n*0=a;n*1=b", "'ab");
        due(";n*1=b;n*0=a", "'ab");
        due(";n*0=a;n*2=c", "'a");
        due(";n*0=a;n*0=b", "'a");
        due(";n*0=a;n*1=b;n*1=c", "'ab");
        due(";n*0=\"\";n*1=\"\"", "'");
        due(";n*0=\"\";n*1=b", "'b");
        due(";n*0=a;m*1=b", "'a");
        due(";m*0=a;n*1=b", null);
        due(";n*0=a;n=b", "'b");
        due(";n*0=a;n*1=b;n=c", "'c");
        due(";n=a;n*1=b", "'a");
        due(";n*=a;n*1*=b;n*2=c", "'a");
        due(";n=b;n*0=a", "'b");
        due(";n*0=a;n*=b", "'b");
        due(";n=a;n=b", "'a");
        due(";n=a;n*=b", "'a");
        due(";n*=a;n=b", "'a");
        due(";N*0=a;n*1*=b", "'ab");
        due(";n*0=0;n*1=1;n*2=2;n*3=3;n*4=4;n*5=5;n*6=6;n*7=7;n*8=8;n*9=9", "'0123456789");
        due(";n*9=9;n*8=8;n*7=7;n*6=6;n*5=5;n*4=4;n*3=3;n*2=2;n*1=1;n*0=0;n*10=x", "'0123456789");
        due(";n*0=0;n*1=1;n*2=2;n*3=3;n*4=4;n*5=5;n*6=6;n*7=7;n*8=8;n*10=x", "'012345678");
        due(";n*10=x", null);
        due("n*10", ";n*10=x", "'x");
        due(";n*00=x", null);
        due("n*00", ";n*00=x", "'x");
        due(";n*/=x", null);
        due(";n*:=x", null);
    }

    private static void coded() {
        due(";n*=%41", "'A");
        due(";n*=%", "'%");
        due(";n*=%4", "'%4");
        due(";n*=%4g", "'%4g");
        due(";n*=%g4", "'%g4");
        due(";n*=%%41", "'%A");
        due(";n*=%4%41", "'%4A");
        due(";n*=%2541", "'%41");
        due(";n*=%41%", "'A%");
        due(";n*=%00", "'\u0000");
        due(";n*=%ff%FF%aF", "'\u00ff\u00ff\u00af");
        due(";n*=\"%41 %4\"", "'A %4");
        due(";n*=\"\"", "'");
        due(";n=%41", "'%41");
        due(";n*0=%41", "'%41");
        due(";n*0*=%41", "'A");
        due(";n*0=%41;n*1*=%41", "'%41A");
        due(";n*0*=%41;n*1=%41", "'A%41");
        due(";n*0*=%;n*1*=41", "'%41");
        due(";n*0*=%4;n*1*=1", "'%41");
    }

    private static void anyDigits() {
        for (char b = 33; b <= 255; b++) {
            if (b == '"' || b == '\\') {
                continue;
            }
            int digit = b < 128 ? Character.digit(b, 16) : -1;
            due(";n*=\"%" + b + "1\"", digit < 0 ? "'%" + b + "1" : "'" + (char) (16 * digit + 1));
            due(";n*=\"%1" + b + "\"", digit < 0 ? "'%1" + b : "'" + (char) (16 + digit));
        }
    }

    private static void charsets() {
        due(";n*=v", "'v");
        due(";n*='v", "''v");
        due(";n*=u'v", "'u'v");
        due(";n*=''", "'");
        due(";n*=''v", "'v");
        due(";n*='l'v", "'v");
        due(";n*=u''v", "u'v");
        due(";n*=U%4A'%27'%4A", "u%4a'J");
        due(";n*0*=%41'%41'%41;n*1*=%41'%41'%41", "%41'AA'A'A");
        due(";n*=u'l'", "u'");
        due(";n*=u'l'v", "u'v");
        due(";n*=u'l'v'w", "u'v'w");
        due(";n*=u'l'%27'", "u'''");
        due(";n*=u%27l'v", "'u'l'v");
        due(";n*=AZ@'l'v", "'AZ");
        due(";n*=\"AZ@[`{'l'v\"", "az@[`{'v");
        due(";n*=u'%41'%41", "u'A");
        due(";n=u'l'v", "'u'l'v");
        due(";n*0=u'l'v", "'u'l'v");
        due(";n*0*=u'l'v", "u'v");
        due(";n*0*=u'l'v;n*1*=w'm'x", "u'vw'm'x");
        due(";n*0=u'l'v;n*1*=w'm'x", "'u'l'vw'm'x");
        due(";n*0*=u';n*1*=l'v", "'u'l'v");
        due(";n*1*=w'm'x;n*0*=u'l'v", "u'vw'm'x");
        due(";n*0*=u'l'v;n*=w'm'x", "w'x");
        due(";n*=w'm'x;n*=u'l'v", "w'x");
    }
}
