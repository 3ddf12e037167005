/** Boundary cases of the words ahead of the promises: WORDS, with comments and quotations. */
public final class TermsWords {
    public static void main(String[] args) {
        Check.part("the words ahead, BLANKS");
        blanks();
        Check.part("the words ahead, COMMENT");
        comments();
        Check.part("the words ahead, QUOTED");
        quotations();
        Check.part("the words ahead, LITERAL");
        literals();
        Check.part("the words ahead, \\");
        taken();
        anyByteWithin();
        Check.part("the words ahead, SIGN and ATOM");
        anyByteBetweenAtoms();
        Check.part("the words ahead, SIGN and ATOM in a TYPE");
        anyByteInType();
        Check.done();
    }

    private static void due(String value, String want) {
        Check.same("addresses of " + value, Check.addresses(value), want);
    }

    private static void blanks() {
        due("", "0");
        due(" ", "0");
        due("\t \t", "0");
        due("\u0000\u0001\u001f\u007f\r", "0");
        due(" \ta\t @ \tb ", "|a|b|-1 0");
        due("a\n b", "1");
        due("a\n @\n\tb", "|a|b|-1 0");
    }

    private static void comments() {
        due("(", "0");
        due("()", "0");
        due("(a", "0");
        due("((a)", "0");
        due("a()", "|a||-1 0");
        due("a(", "|a||-1 0");
        due("a(b", "b|a||-1 0");
        due("a(b)", "b|a||-1 0");
        due("a(b))", "1");
        due("a((b)", "(b)|a||-1 0");
        due("a(())", "()|a||-1 0");
        due("a((((b))", "(((b))|a||-1 0");
        due("a(b(c)d(e(f))g)@h", "b(c)d(e(f))g|a|h|-1 0");
        due("a(b)c", "1");
        due("a(\")@b", "\"|a|b|-1 0");
        due("a([)@b", "[|a|b|-1 0");
        due("a(,;:<)@b", ",;:<|a|b|-1 0");
        due("a(" + "(".repeat(40) + ")".repeat(40) + ")@b", "(".repeat(40) + ")".repeat(40) + "|a|b|-1 0");
    }

    private static void quotations() {
        due("\"", "|||-1 0");
        due("\"\"", "|||-1 0");
        due("\"a", "|a||-1 0");
        due("\"a\"", "|a||-1 0");
        due("\"a,;:<", "|a,;:<||-1 0");
        due("\"a\"\"b\" <c>", "a b|c||-1 0");
        due("a\"b\"c <d>", "a b c|d||-1 0");
        due("\"a\" \"", "1");
        due("\"(\"@b", "|(|b|-1 0");
        due("\"[\"@b", "|[|b|-1 0");
        due("\" \t\"@b", "| \t|b|-1 0");
    }

    private static void literals() {
        due("[", "1");
        due("a@[", "|a|[]|-1 0");
        due("a@[]", "|a|[]|-1 0");
        due("a@[b", "|a|[b]|-1 0");
        due("a@[b]", "|a|[b]|-1 0");
        due("a@[[b]", "|a|[[b]|-1 0");
        due("a@[b]]", "1");
        due("a@[(\"]", "|a|[(\"]|-1 0");
        due("a@[,;:<>]", "|a|[,;:<>]|-1 0");
        due("a@[ \t]", "|a|[ \t]|-1 0");
        due("a@[b][c]", "1");
    }

    private static void taken() {
        due("a(\\", "|a||-1 0");
        due("a(\\)", ")|a||-1 0");
        due("a(\\()@b", "(|a|b|-1 0");
        due("a(\\))@b", ")|a|b|-1 0");
        due("a(\\\\)@b", "\\|a|b|-1 0");
        due("a((\\)\\())@b", "()()|a|b|-1 0");
        due("a(b\\", "b|a||-1 0");
        due("a(b\\c)", "bc|a||-1 0");
        due("\"\\", "|||-1 0");
        due("\"\\\"", "|\"||-1 0");
        due("\"\\\"\"@b", "|\"|b|-1 0");
        due("\"\\\\\"@b", "|\\|b|-1 0");
        due("\"a\\", "|a||-1 0");
        due("\"a\\b\"", "|ab||-1 0");
        due("a@[\\", "|a|[]|-1 0");
        due("a@[\\]", "|a|[]]|-1 0");
        due("a@[\\]]", "|a|[]]|-1 0");
        due("a@[\\\\]", "|a|[\\]|-1 0");
        due("a@[b\\", "|a|[b]|-1 0");
        due("\\", "1");
        due("\\a", "1");
        due("a\\@b", "1");
        due("\\\"a\"", "1");
        due("a \\, b", "|b||-1 1");
    }

    private static void anyByteWithin() {
        for (char b = 0; b <= 255; b++) {
            if (b == 10) {
                continue;
            }
            if (b != '(' && b != ')' && b != '\\') {
                due("a(b" + b + "c)", "b" + b + "c|a||-1 0");
            }
            if (b != '"' && b != '\\') {
                due("\"b" + b + "c\"", "|b" + b + "c||-1 0");
            }
            if (b != ']' && b != '\\') {
                due("a@[b" + b + "c]", "|a|[b" + b + "c]|-1 0");
            }
            due("a(b\\" + b + "c)", "b" + b + "c|a||-1 0");
            due("\"b\\" + b + "c\"", "|b" + b + "c||-1 0");
            due("a@[b\\" + b + "c]", "|a|[b" + b + "c]|-1 0");
        }
    }

    private static String betweenAtoms(char b) {
        switch (b) {
            case '(':
                return "c|a||-1 0";
            case '@':
                return "|a|c|-1 0";
            case ',':
            case ';':
                return "|a||-1 |c||-1 0";
            case ':':
                return "|c||0 {a} 0";
            case '<':
            case '>':
            case ')':
            case '[':
            case ']':
            case '"':
            case '\\':
            case 127:
                return "1";
            default:
                return b <= 32 ? "1" : "|a" + b + "c||-1 0";
        }
    }

    private static void anyByteBetweenAtoms() {
        for (char b = 0; b <= 255; b++) {
            if (b != 10) {
                due("a" + b + "c", betweenAtoms(b));
            }
        }
        due("a.c <d>", "a. c|d||-1 0");
        due("\u0080\u00a0\u00ff", "|\u0080\u00a0\u00ff||-1 0");
    }

    private static void anyByteInType() {
        for (char b = 0; b <= 255; b++) {
            if (b != 10) {
                boolean ends = b <= 32 || b == 127 || "<>:;@,)]\\=/(\"[".indexOf(b) >= 0;
                String want = ends ? "t/a" : "t/a" + Character.toString(b >= 'A' && b <= 'Z' ? b + 32 : b) + "c";
                Check.same("type of t/a" + b + "c", Check.type("t/a" + b + "c"), want);
            }
        }
    }
}
