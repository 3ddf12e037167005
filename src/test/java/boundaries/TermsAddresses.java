/** Boundary cases of the words ahead of the promises: ADDRESSES. */
public final class TermsAddresses {
    public static void main(String[] args) {
        Check.part("the words ahead, ADDRESSES");
        lists();
        Check.part("the words ahead, GROUP");
        groups();
        groupsThatAreBad();
        Check.part("the words ahead, MAILBOX");
        mailboxes();
        Check.part("the words ahead, ROUTE");
        routes();
        Check.part("the words ahead, LOCAL");
        locals();
        Check.part("the words ahead, DOMAIN");
        domains();
        Check.part("the words ahead, < that is not ended");
        unended();
        Check.part("the words ahead, TITLE of a NAME");
        titles();
        Check.part("the words ahead, TITLE of a COMMENT");
        commentTitles();
        Check.done();
    }

    private static void due(String value, String want) {
        Check.same("addresses of " + value, Check.addresses(value), want);
    }

    private static void lists() {
        due("", "0");
        due("(a)", "0");
        due(",", "0");
        due(",,", "0");
        due(" , (a) , ", "0");
        due(";", "0");
        due(";;,;", "0");
        due("a,", "|a||-1 0");
        due(",a", "|a||-1 0");
        due("a,,b", "|a||-1 |b||-1 0");
        due("a;b", "|a||-1 |b||-1 0");
        due("a;", "|a||-1 0");
        due(".;.,.", "3");
        due("a,. ,b", "|a||-1 |b||-1 1");
    }

    private static void groups() {
        due(":", "{} 0");
        due(":;", "{} 0");
        due("g:", "{g} 0");
        due("g:;", "{g} 0");
        due("g:;;", "{g} 0");
        due("g:,;", "{g} 0");
        due("g:,,a,,;", "|a||0 {g} 0");
        due("g:a", "|a||0 {g} 0");
        due("g:a,b", "|a||0 |b||0 {g} 0");
        due("g:a;b", "|a||0 |b||-1 {g} 0");
        due("g:a;,b", "|a||0 |b||-1 {g} 0");
        due("a,g:b", "|a||-1 |b||0 {g} 0");
        due("g:;h:a", "|a||1 {g} {h} 0");
        due("g:a;h:b;i:c;d", "|a||0 |b||1 |c||2 |d||-1 {g} {h} {i} 0");
        due("g:;:;:a", "|a||2 {g} {} {} 0");
        due(".:a", "|a||0 {.} 0");
        due("\"\":a", "|a||0 {} 0");
        due("\"a\" . b.\"\" c:", "{a. b.  c} 0");
        due("(x):a", "|a||0 {} 0");
        due("g (x):a", "|a||0 {g} 0");
        due("\"g;\":a", "|a||0 {g;} 0");
    }

    private static void groupsThatAreBad() {
        due("a@b:c", "|c||0 {} 1");
        due("a@b:c;d", "|c||0 |d||-1 {} 1");
        due("<a>:c", "|c||0 {} 1");
        due("[a]:c", "|c||0 {} 1");
        due(">:c", "|c||0 {} 1");
        due("a b@:;g:c", "|c||1 {} {g} 1");
        due("g:a:b", "|b||0 {g} 1");
        due("g:a@b:c", "|c||0 {g} 1");
        due("g::", "{g} 1");
        due("::", "{} 1");
        due(":::", "{} 2");
        due("g:,:a", "|a||0 {g} 1");
        due("g: (x) :a", "|a||0 {g} 1");
        due("g:.:a", "|a||0 {g} 1");
        due("g:a::b;c:d", "|b||0 |d||1 {g} {c} 2");
        due("g:.;.", "{g} 2");
    }

    private static void mailboxes() {
        due("<a>", "|a||-1 0");
        due("n<a>", "n|a||-1 0");
        due(".<a>", ".|a||-1 0");
        due("\"\"<a>", "|a||-1 0");
        due("<a@b>", "|a|b|-1 0");
        due("<>", "1");
        due("n<>", "1");
        due("<(a)>", "1");
        due("<a>b", "1");
        due("<a>.", "1");
        due("<a>@b", "1");
        due("<a><b>", "1");
        due("<<a>>", "1");
        due("<a<b>", "1");
        due("<a>>", "1");
        due("a>", "1");
        due(">a<", "1");
        due("@<a>", "1");
        due("[n]<a>", "1");
        due("n@<a>", "1");
        due("<a,b>", "1");
        due("<a;b>", "1");
        due("<a,b>,c", "|c||-1 1");
        due("<a;b>;c", "|c||-1 1");
        due("g:<a;b>,c", "|c||0 {g} 1");
        due("<a>,<b>", "|a||-1 |b||-1 0");
    }

    private static void routes() {
        due("<:a>", "|a||-1 0");
        due("<@:a>", "|a||-1 0");
        due("<,:a>", "|a||-1 0");
        due("<.:a>", "|a||-1 0");
        due("<r:a>", "|a||-1 0");
        due("<@r.s,@t:a@b>", "|a|b|-1 0");
        due("<(x):a>", "x|a||-1 0");
        due("<:>", "1");
        due("<r:>", "1");
        due("<r:a:b>", "1");
        due("<r::a>", "1");
        due("<\"r\":a>", "1");
        due("<[r]:a>", "1");
        due("<;:a>", "1");
        due("<<:a>", "1");
        due("<):a>", "1");
        due("<r a>", "1");
        due("@r:a", "|a||0 {} 1");
    }

    private static void locals() {
        due("a", "|a||-1 0");
        due("\"\"", "|||-1 0");
        due("\"\"@b", "||b|-1 0");
        due("\"\".\"\"", "|.||-1 0");
        due("a.b", "|a.b||-1 0");
        due("a.\"b\".c@d", "|a.b.c|d|-1 0");
        due(".", "1");
        due(".a", "1");
        due("a.", "1");
        due("a..b", "1");
        due("a.@b", "1");
        due("a b", "1");
        due("a \"b\"", "1");
        due("\"a\"b", "1");
        due("[a]", "1");
        due("a.[b]", "1");
        due("@b", "1");
        due("<.>", "1");
        due("<a.>", "1");
        due("<a b>", "1");
    }

    private static void domains() {
        due("a@b", "|a|b|-1 0");
        due("a@b.c.d", "|a|b.c.d|-1 0");
        due("a@[]", "|a|[]|-1 0");
        due("a@", "1");
        due("<a@>", "1");
        due("a@@b", "1");
        due("a@b@c", "1");
        due("a@.", "1");
        due("a@.b", "1");
        due("a@b.", "1");
        due("a@b..c", "1");
        due("a@b c", "1");
        due("a@\"b\"", "1");
        due("a@b.\"c\"", "1");
        due("a@[b].c", "1");
        due("a@b.[c]", "1");
        due("a@[b]c", "1");
        due("a@b[c]", "1");
    }

    private static void unended() {
        due("<", "1");
        due("a<", "1");
        due("<a", "1");
        due("<a@b", "1");
        due("<a,b;c:d", "1");
        due("a,<b,c", "|a||-1 1");
        due("g:a,<b;c", "|a||0 {g} 1");
        due("<a(>)", "1");
        due("<a\">\"", "1");
        due("<a[>]", "1");
        due("@<,<a>", "1");
        due("<a>,<", "|a||-1 1");
    }

    private static void titles() {
        due("a b<c>", "a b|c||-1 0");
        due("a.b<c>", "a. b|c||-1 0");
        due("a .b<c>", "a. b|c||-1 0");
        due(".<c>", ".|c||-1 0");
        due("..<c>", "..|c||-1 0");
        due(".a<c>", ". a|c||-1 0");
        due("\"\"\"\"<c>", " |c||-1 0");
        due("\"\".<c>", ".|c||-1 0");
        due("\".\"\".\"<c>", ". .|c||-1 0");
        due("\" a \"b<c>", " a  b|c||-1 0");
        due("a(x)b<c>(y)", "a b|c||-1 0");
        due("a\t\t b<c>", "a b|c||-1 0");
    }

    private static void commentTitles() {
        due("(x)a", "|a||-1 0");
        due("(x)<a>", "|a||-1 0");
        due("<(x)a>", "x|a||-1 0");
        due("<a(x)>", "x|a||-1 0");
        due("<a>(x)", "x|a||-1 0");
        due("a(x)", "x|a||-1 0");
        due("a(x)@b", "x|a|b|-1 0");
        due("a@b(x)(y)", "y|a|b|-1 0");
        due("a(x)()", "|a||-1 0");
        due("a(x(y))", "x(y)|a||-1 0");
        due("(w)a(x),(y)b(z)", "x|a||-1 z|b||-1 0");
        due("a,(x)b", "|a||-1 |b||-1 0");
        due("a;(x)b", "|a||-1 |b||-1 0");
        due("g:(x)a;", "|a||0 {g} 0");
        due("g(x):a", "|a||0 {g} 0");
        due("a;(x)", "|a||-1 0");
        due("a b(x),c", "|c||-1 1");
        due("n<a>(x)", "n|a||-1 0");
        due("\"\"<a>(x)", "|a||-1 0");
        due("<r(x):a>", "x|a||-1 0");
    }
}
