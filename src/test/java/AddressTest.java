/** Promises 9, 13, 14 and 15: addresses, and what is told of them. */
public final class AddressTest {
    private static final int NONE = MailHeads.NONE;

    public static void main(String[] args) {
        specs();
        titles();
        words();
        routes();
        groups();
        wrongOnes();
        ends();
        state();
        many();
        Check.done();
    }

    private static void due(String value, String want) {
        Check.same("addresses of " + value, Check.addresses(value), want);
    }

    private static void specs() {
        due("", "0");
        due(" , ,, ", "0");
        due("a@b.c", "|a|b.c|-1 0");
        due("a . \"b c\" . d @ e . f", "|a.b c.d|e.f|-1 0");
        due("bob", "|bob||-1 0");
        due("\"\"", "|||-1 0");
        due("a@[1.2 \\\\ [3]", "|a|[1.2 \\ [3]|-1 0");
        due("<a@b>", "|a|b|-1 0");
        due("a@\"b\"", "1");
        due("a@[b].c", "1");
        due("a@b.[c]", "1");
        due("a@[b] c", "1");
        due("[a]@b", "1");
        due("a@b@c", "1");
        due("a b", "1");
        due(".a@b", "1");
        due("a@.b", "1");
        due("a@b.", "1");
        due("a@b..c", "1");
        due("a.", "1");
        due("@", "1");
        due("@a", "1");
        due("<@a>", "1");
        due("!a!", "|!a!||-1 0");
        due("=/+*'%{}~\u00e9@x/y=z", "|=/+*'%{}~\u00e9|x/y=z|-1 0");
    }

    private static void titles() {
        due("Joe Q. Public <j@p>", "Joe Q. Public|j|p|-1 0");
        due("a.b.c <d>", "a. b. c|d||-1 0");
        due(". . a <d>", ".. a|d||-1 0");
        due("\"a  b\"c\"\" <d>", "a  b c |d||-1 0");
        due("\"\" <d> (x)", "|d||-1 0");
        due("<d> (x) (y(z)\\) )", "y(z)) |d||-1 0");
        due("<d (x)>", "x|d||-1 0");
        due("(a) d (b) @ (c) e", "c|d|e|-1 0");
        due("(a) d", "|d||-1 0");
        due("(a) <d>", "|d||-1 0");
        due("n (a) <d> (b)", "n|d||-1 0");
        due("d (a) ()", "|d||-1 0");
        due("d (a), (b) e, f; (c)", "a|d||-1 |e||-1 |f||-1 0");
        due("d (a (b", "a (b|d||-1 0");
        due("d (a (b) c", "a (b) c|d||-1 0");
        due("d (a\\", "a|d||-1 0");
        due("d (\" [ , ; :)", "\" [ , ; :|d||-1 0");
        due("<@x (a),@y (b):c@d>", "b|c|d|-1 0");
        due("(x (y) z) e", "|e||-1 0");
    }

    private static void words() {
        due("a\u0001b", "1");
        due("a\u007fb", "1");
        due("\u0001a\u0000@\u007fb\u001f", "|a|b|-1 0");
        due("\"a\u0001\u007f\tb\"@[\u0002]", "|a\u0001\u007f\tb|[\u0002]|-1 0");
        due("\"a\\\"b(c\" (d\"e) <f>", "a\"b(c|f||-1 0");
        due("a\"b\"", "1");
        due("\"a", "|a||-1 0");
        due("\"a\\", "|a||-1 0");
        due("a@[b", "|a|[b]|-1 0");
        due("a@[b\\", "|a|[b]|-1 0");
        due("a@[b(c\"d]", "|a|[b(c\"d]|-1 0");
        due("a\\b", "1");
        due(")", "1");
        due("]", "1");
        due(">", "1");
        due("a(b)c", "1");
        due("a(b).c", "b|a.c||-1 0");
    }

    private static void routes() {
        due("n <@a,@b.c:d@e>", "n|d|e|-1 0");
        due("<a:d@e>", "|d|e|-1 0");
        due("<,.:d@e>", "|d|e|-1 0");
        due("<:d@e>", "|d|e|-1 0");
        due("<@a:>", "1");
        due("<@a:b:c>", "1");
        due("<\"a\":b>", "1");
        due("<@a;@b:c>", "1");
        due("<[a]:b>", "1");
        due("<@a d@e>", "1");
    }

    private static void groups() {
        due("g:;", "{g} 0");
        due(":;", "{} 0");
        due(":", "{} 0");
        due("a. \"b c\" d: x@y, , z; q", "|x|y|0 |z||0 |q||-1 {a. b c d} 0");
        due("g: a, b", "|a||0 |b||0 {g} 0");
        due("g: a; h: b; c, i:;", "|a||0 |b||1 |c||-1 {g} {h} {i} 0");
        due("g (c): a (d);", "d|a||0 {g} 0");
        due("g: a: b; c", "|b||0 |c||-1 {g} 1");
        due("g::a", "|a||0 {g} 1");
        due("g: , : ; : b", "|b||1 {g} {} 1");
        due("a@b: c; d", "|c||0 |d||-1 {} 1");
        due("<a>: c;", "|c||0 {} 1");
        due("a; b;; c", "|a||-1 |b||-1 |c||-1 0");
        due("g: <@a:b;c>, d; e", "|d||0 |e||-1 {g} 1");
        due("\"\": a;", "|a||0 {} 0");
        due(".: a;", "|a||0 {.} 0");
    }

    private static void wrongOnes() {
        due("<>", "1");
        due("a <", "1");
        due("<", "1");
        due("a <b, c; d: e", "1");
        due("g: a <b; c", "{g} 1");
        due("<a<b>, c", "|c||-1 1");
        due("<a>>, c", "|c||-1 1");
        due("<a> b, c", "|c||-1 1");
        due("<a> <b>, c", "|c||-1 1");
        due("a@b <c>, d", "|d||-1 1");
        due("[a] <c>, d", "|d||-1 1");
        due("<a (>) , b", "1");
        due("<\">\" , b", "1");
    }

    private static void ends() {
        MailHeads mail = Check.value("g: t <l@d>");
        mail.addresses(0);
        int[] wrong = {-1, 1, 0x55555556, 1 << 30, 1 << 31, Integer.MAX_VALUE};
        for (int k : wrong) {
            Check.same("group(2, " + k + ")", mail.group(2, k), NONE);
            for (int what = 0; what < 4; what++) {
                Check.same("length(" + what + ", " + k + ")", mail.length(what, k), NONE);
                Check.same("at(" + what + ", " + k + ", 0)", mail.at(what, k, 0), NONE);
            }
        }
        Check.same("group(0, 7): k counts for nothing", mail.group(0, 7), 1);
        Check.same("group(1, -7): k counts for nothing", mail.group(1, -7), 0);
        Check.same("group(3, 0)", mail.group(3, 0), NONE);
        Check.same("group(-1, 0)", mail.group(-1, 0), NONE);
        Check.same("length(7, 0)", mail.length(7, 0), NONE);
        Check.same("length(-1, 0)", mail.length(-1, 0), NONE);
        Check.same("at(0, 0, 0)", mail.at(0, 0, 0), 't');
        Check.same("at(0, 0, 1): not of the next text", mail.at(0, 0, 1), NONE);
        Check.same("at(1, 0, 0)", mail.at(1, 0, 0), 'l');
        Check.same("at(2, 0, 0)", mail.at(2, 0, 0), 'd');
        Check.same("at(3, 0, 0)", mail.at(3, 0, 0), 'g');
        Check.same("at(0, 0, max)", mail.at(0, 0, Integer.MAX_VALUE), NONE);
        Check.same("at(0, 0, min)", mail.at(0, 0, Integer.MIN_VALUE), NONE);
    }

    private static void state() {
        MailHeads mail = Check.head("A: g: x@y, b b\nB: z <i@j>\nC: text/plain\nD: 1 Jan 2000 00:00");
        mail.addresses(0);
        mail.identities(1);
        mail.type(2);
        mail.date(3);
        for (int field : new int[] {-1, 4, 1 << 31, Integer.MAX_VALUE}) {
            Check.throwsOutOfBounds("addresses(" + field + ")", () -> mail.addresses(field));
        }
        mail.read();
        Check.same("what was read stays: mailbox", Check.text(mail, 1, 0), "x");
        Check.same("what was read stays: group", Check.text(mail, 3, 0), "g");
        Check.same("what was read stays: bad", mail.group(1, 0), 1);
        Check.same("what was read stays: identity", Check.text(mail, 4, 0), "i@j");
        Check.same("what was read stays: type", Check.text(mail, 6, 0), "plain");
        Check.tape(mail, "A:q");
        mail.read();
        Check.same("addresses again", mail.addresses(0), 1);
        Check.same("groups again", mail.group(0, 0), 0);
        Check.same("bad again", mail.group(1, 0), 0);
        Check.same("the mailbox again", Check.text(mail, 1, 0), "q");
        Check.same("no group again", mail.group(2, 0), NONE);
    }

    private static void many() {
        MailHeads mail = Check.value("a,".repeat(749));
        Check.same("749 mailboxes", mail.addresses(0), 749);
        Check.same("the last one", Check.text(mail, 1, 748), "a");
        mail = Check.value(":;".repeat(749));
        Check.same("no mailboxes", mail.addresses(0), 0);
        Check.same("749 groups", mail.group(0, 0), 749);
        Check.same("the last one's name", Check.text(mail, 3, 748), "");
        mail = Check.value(".a".repeat(747) + "<b>");
        Check.same("a long title", mail.addresses(0), 1);
        Check.same("its size", mail.length(0, 0), 747 * 3);
        mail = Check.value("(".repeat(1498));
        Check.same("deep comments", mail.addresses(0), 0);
        mail = Check.value("a" + "(".repeat(1497));
        Check.same("deep comments behind a word", mail.addresses(0), 1);
        Check.same("their title", mail.length(0, 0), 1496);
    }
}
