/** Boundary cases of the words ahead of the promises: IDENTITIES. */
public final class TermsIdentities {
    public static void main(String[] args) {
        Check.part("the words ahead, IDENTITIES between < and >");
        bounds();
        Check.part("the words ahead, IDENTITIES of 1 to 100 bytes");
        sizes();
        Check.part("the words ahead, IDENTITIES without BLANKS");
        blanks();
        Check.done();
    }

    private static void due(String value, String want) {
        Check.same("identities of " + value, Check.identities(value), want);
    }

    private static void bounds() {
        due("", "");
        due("a", "");
        due("<", "");
        due(">", "");
        due("><", "");
        due("<a", "");
        due("a>", "");
        due("<a>", "a|");
        due("<a><b>", "a|b|");
        due("<a>x>y<b>", "a|b|");
        due("<a>>", "a|");
        due("<<a>", "<a|");
        due("<<>", "<|");
        due("<a<b>c>", "a<b|");
        due("<a><b", "a|");
        due("<><a>", "a|");
        due("(<a>", "a|");
        due("\"<a>", "a|");
        due("[<a>", "a|");
        due("<\\>>", "\\|");
        due("<(>)>", "(|");
        due("<\">\">", "\"|");
    }

    private static void sizes() {
        String hundred = "b" + "a".repeat(98) + "c";
        due("<>", "");
        due("<a>", "a|");
        due("<" + hundred.substring(1) + ">", hundred.substring(1) + "|");
        due("<" + hundred + ">", hundred + "|");
        due("<" + hundred + "d>", "");
        due("<" + hundred + "d><e>", "e|");
        due("<a><" + "b".repeat(1400) + "><c>", "a|c|");
        due("<" + "<".repeat(100) + ">", "<".repeat(100) + "|");
    }

    private static void blanks() {
        due("< >", "");
        due("<\t>", "");
        due("< a>", "");
        due("<a >", "");
        due("<a b>", "");
        due("<a\tb>", "");
        due("<a b><c>", "c|");
        due("<a\n b><c>", "c|");
        due(" <a> <b>\t", "a|b|");
        due("<" + "a".repeat(99) + " ><b>", "b|");
        for (char b = 0; b <= 255; b++) {
            if (b != 10 && b != '>') {
                due("<a" + b + "c>", b == 32 || b == 9 ? "" : "a" + b + "c|");
            }
        }
    }
}
