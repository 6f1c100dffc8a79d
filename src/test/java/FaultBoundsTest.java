/** FAULTS 1 to 5 and promise 8: each case just within its limit and just beyond it, its place, and the order. */
public final class FaultBoundsTest {
    private static final String HIGH = "999999999999999+1";
    private static final String LOW = "-999999999999999-1";
    /** Templates on full() that do as many tags, and print nothing. */
    private static final String[] LOOPS = {"{each t}{each t}{''}{''}{''}{end}{end}", "{each t}{each t}{''}{end}{end}",
        "{each t}{''}{''}{''}{''}{''}{end}", "{each t}{''}{end}", "{''}"};
    private static final int[] LOOP_TAGS = {785, 273, 81, 17, 1};

    public static void main(String[] args) {
        namesForNothing();
        functionsForNothing();
        tablesForNothing();
        wordsForNumbers();
        numbersForWords();
        sums();
        products();
        printedNowhere();
        bytesTooMany();
        tagsWithTooManyBytes();
        tagsTooMany();
        tagsThatCount();
        beforeAnythingOfIt();
        functionsFirst();
        leftToRight();
        eachInOrder();
        firstOneCounts();
        places();
        noTemplate();
        Check.end();
    }

    private static void due(String template, Object want) {
        Check.same(template, Desk.shop().merged(template), want);
    }

    private static void fault(int fault, String... exprs) {
        for (String expr : exprs) {
            due("{" + expr + "}", -10000 * fault + " ");
            due("a{let v=" + expr + "}b", -10000 * fault - 1 + " a");
            due("ab{if " + expr + "}c{end}", -10000 * fault - 2 + " ab");
            due("abc{each item no=" + expr + "}d{end}", -10000 * fault - 3 + " abc");
            due("{each empty x=" + expr + "}d{end}", -10000 * fault + " ");
        }
    }

    private static Desk full() {
        Desk desk = Desk.of("t a b");
        for (int i = 0; i < 16; i++) {
            desk.record(0, i + ";abcdefghijkl");
        }
        return desk;
    }

    private static String tags(int count) {
        StringBuilder text = new StringBuilder();
        int rest = count;
        for (int i = 0; i < LOOPS.length; i++) {
            text.append(LOOPS[i].repeat(rest / LOOP_TAGS[i]));
            rest %= LOOP_TAGS[i];
        }
        return text.toString();
    }

    /** A template on full() that prints as many bytes, from 3072 on: the words of 256 records, spaces, and x. */
    private static String bytes(int count) {
        int rest = count - 3072;
        String spaces = "{each t}{''>20}{end}".repeat(rest / 320);
        rest %= 320;
        return "{each t}{each t}{b}{end}{end}" + spaces + (rest < 16 ? "" : "{each t}{''>" + rest / 16 + "}{end}")
                + "x".repeat(rest % 16);
    }

    private static String printed(int count) {
        return "abcdefghijkl".repeat(256) + " ".repeat((count - 3072) / 16 * 16) + "x".repeat(count % 16);
    }

    private static void namesForNothing() {
        Check.sentence("1 a name that stands for nothing");
        fault(1, "nope", "no", "item", "abs", "nope+1", "1+nope", "-nope", "(nope)", "abs(nope)", "min(1,nope)",
                "eq(nope,1)");
        due("{let a=1}{aa}", "-10009 ");
        due("{let aa=1}{a}", "-10010 ");
        due("{each item}{no}{end}{no}", "-10020 123");
        due("{each item}{qty}{end}", "-10011 ");
        due("{let qty=4}{each item}{qty}{end}", "444");
        due("{each empty}{x}{end}{x}", "-10020 ");
    }

    private static void functionsForNothing() {
        Check.sentence("1 .. a function .. that there is not, or with another number of arguments");
        fault(1, "f(1)", "mins(1)", "mi(1)", "item(1)", "no(1)", "pct(1)", "pct(1,1,1)", "div(1)", "div(1,1,1)",
                "abs(1,1)", "len('a','a')", "eq(1)", "eq(1,1,1)", "lt(1)", "lt(1,1,1)", "sum(item)", "sum(item,no,no)",
                "count(item,no)");
        due("{let f=1}{f(1)}", "-10009 ");
    }

    private static void tablesForNothing() {
        Check.sentence("1 .. a table or column that there is not; or for T or C no name alone");
        fault(1, "count(nope)", "sum(nope,no)", "sum(item,nope)", "sum(item,qty)", "sum(empty,no)", "count(no)",
                "count(1)", "sum(item,1)", "count((item))", "sum(item,(no))");
        due("{each nope}{end}", "-10000 ");
        due("{each item nope=1}{end}", "-10000 ");
        due("{each item qty=1}{end}", "-10000 ");
        due("{each empty no=1}{end}", "-10000 ");
        due("{each no}{end}", "-10000 ");
        due("{count(item)}{sum(item,no)}{each empty x=1}{end}", "36");
    }

    private static void wordsForNumbers() {
        Check.sentence("2 a word where there must be a number");
        String[] words = {"'a'", "''", "'1'", "('a')"};
        for (String word : words) {
            fault(2, word + "+1", "1+" + word, word + "-1", "1-" + word, word + "*1", "1*" + word, "-" + word,
                    "pct(" + word + ",1)", "pct(1," + word + ")", "div(" + word + ",1)", "div(1," + word + ")",
                    "min(" + word + ")", "max(1," + word + ")", "abs(" + word + ")", "lt(" + word + ",1)",
                    "lt(1," + word + ")", word + "+" + word, "0*" + word);
            due("{" + word + ":1}", "-20000 ");
            due("{" + word + ":4>9}", "-20000 ");
        }
        due("{each item}{name+1}{end}", "-20011 ");
        due("{let a='w'}{a-1}", "-20011 ");
        due("{'a'}{'a'>3}{eq('a',1)}{if 'a'}{end}{let a='w'}{each item no='a'}{end}", "a  a0");
    }

    private static void numbersForWords() {
        Check.sentence("2 .. or the other way");
        fault(2, "len(1)", "len(0)", "len(-1)", "len(1+1)", "len(count(item))", "len(len('a'))");
        due("{each item}{len(name)}{end}", "330");
        due("{each item}{len(no)}{end}", "-20011 ");
    }

    private static void sums() {
        Check.sentence("3 a number beyond 10^15 (+ and -)");
        due("{" + HIGH + "}", "1000000000000000");
        due("{" + LOW + "}", "-1000000000000000");
        due("{-(" + HIGH + ")}{-(" + LOW + ")}", "-10000000000000001000000000000000");
        due("{" + HIGH + "-1-1}", "999999999999998");
        due("{500000000000000+500000000000000}", "1000000000000000");
        due("{-500000000000000-500000000000000}", "-1000000000000000");
        fault(3, "999999999999999+2", "-999999999999999-2", "2+999999999999999", "-2-999999999999999", HIGH + "+1",
                LOW + "-1", "500000000000000+500000000000001", "-500000000000000-500000000000001",
                "999999999999999+2-2", "(" + HIGH + ")+(" + HIGH + ")");
    }

    private static void products() {
        Check.sentence("3 a number beyond 10^15 (*)");
        due("{100000000*10000000}", "1000000000000000");
        due("{-100000000*10000000}", "-1000000000000000");
        due("{10000000*-100000000}", "-1000000000000000");
        due("{-10000000*-100000000}", "1000000000000000");
        due("{(" + HIGH + ")*1}{(" + HIGH + ")*-1}{(" + LOW + ")*-1}{(" + LOW + ")*0}{0*(" + HIGH + ")}",
                "1000000000000000-1000000000000000100000000000000000");
        // 10^15 - 1 and 10^15 + 1
        due("{37*27027027027027}", "999999999999999");
        fault(3, "7*142857142857143", "-7*142857142857143", "7*-142857142857143", "-7*-142857142857143");
        // beyond what a long holds: 2^64, 2^64 + 2^32, 2^63
        fault(3, "4294967296*4294967296", "4294967296*4294967297", "4294967296*2147483648", "3037000500*3037000500",
                "(" + HIGH + ")*(" + HIGH + ")", "(" + LOW + ")*(" + LOW + ")", "(" + LOW + ")*(" + HIGH + ")",
                "999999999999999*999999999999999*0");
    }

    private static void printedNowhere() {
        Check.sentence("3 .. (also one that is printed nowhere)");
        fault(3, "0*(999999999999999+2)", "min(1,999999999999999+2)", "eq(999999999999999+2,1)",
                "lt(1,999999999999999+2)", "div(999999999999999+2,2)", "abs(-999999999999999-2)",
                "-(999999999999999+2)", "div(1,0)", "0*div(1,0)", "div(0,0)");
        due("{if 0}{999999999999999+2}{end}ok", "ok");
    }

    private static void bytesTooMany() {
        Check.sentence("4 more than 4000 bytes (the first 4000 come out); "
                + "the byte that stands for itself (of {{ the first one)");
        int[] counts = {3999, 4000};
        for (int count : counts) {
            Check.same(count + " bytes", full().merged(bytes(count)), printed(count));
        }
        String least = bytes(3999);
        String most = bytes(4000);
        Check.same("4000 with a byte", full().merged(least + "}"), printed(3999) + "}");
        Check.same("4000 with {{", full().merged(least + "{{"), printed(3999) + "{");
        Check.same("4001 with a byte", full().merged(most + "}"), -40000 - most.length() + " " + printed(4000));
        Check.same("4001 with {{", full().merged(most + "{{"), -40000 - most.length() + " " + printed(4000));
        Check.same("4001 with the second {{", full().merged(least + "{{{{"), -40002 - least.length() + " "
                + printed(3999) + "{");
        Check.same("4001 with the second byte", full().merged(least + "yz"), -40001 - least.length() + " "
                + printed(3999) + "y");
        String inLoop = "{each t}z{end}" + bytes(3990).replace("x", "");
        Check.same("a byte in a loop", full().merged(bytes(3984) + "{each t}{each t}z{end}{end}"),
                -40016 - bytes(3984).length() + " " + printed(3984) + "z".repeat(16));
        Check.same("bytes of a loop are all counted", full().merged(inLoop), "z".repeat(16) + printed(3984));
    }

    private static void tagsWithTooManyBytes() {
        Check.sentence("4 more than 4000 bytes; the { of the tag in which it was (what came out before it is there)");
        String[] tags = {"{12345}", "{'abcde'}", "{-1234}", "{-123:2}", "{123:2>5}", "{-12:1>5}", "{1>5}", "{1<5}",
            "{''>5}", "{''<5}", "{'ab'>5}", "{'ab'<5}"};
        String[] shown = {"12345", "abcde", "-1234", "-1.23", " 1.23", " -1.2", "    1", "1    ", "     ", "     ",
            "   ab", "ab   "};
        for (int i = 0; i < tags.length; i++) {
            for (int room = 0; room <= 5; room++) {
                String before = bytes(4000 - room);
                String want = room == 5 ? "" : -40000 - before.length() + " ";
                Check.same(tags[i] + " with room for " + room, full().merged(before + tags[i]),
                        want + printed(4000 - room) + shown[i].substring(0, room));
            }
        }
        String most = bytes(4000);
        Check.same("an empty word", full().merged(most + "{''}{let a=1}{if a}{else}{end}{each t}{end}"), printed(4000));
        Check.same("what is worked out first", full().merged(most + "{nope>20}"), -10000 - most.length() + " "
                + printed(4000));
        Check.same("what is looked at first", full().merged(most + "{'a':2}"), -20000 - most.length() + " "
                + printed(4000));
    }

    private static void tagsTooMany() {
        Check.sentence("5 a 3001st tag is to be done");
        int[] counts = {1, 16, 17, 18, 273, 2999, 3000};
        for (int count : counts) {
            Desk desk = full();
            Check.same(count + " tags", desk.merged(tags(count)), "");
            Check.same("done", desk.about(3), count);
        }
        String most = tags(3000);
        String[] more = {"{1}", "{''}", "{if 1}{end}", "{if 0}{end}", "{each t}{end}", "{each t a=99}{end}",
            "{let v=1}"};
        for (String tag : more) {
            Desk desk = full();
            Check.same("2999 and " + tag, desk.merged(tags(2999) + tag), tag.equals("{1}") ? "1" : "");
            Check.same("done", desk.about(3), 3000);
            desk = full();
            Check.same("3000 and " + tag, desk.merged(most + tag), -50000 - most.length() + " ");
            Check.same("done", desk.about(3), 3000);
            Check.same("no variable", desk.variable("v"), Desk.NONE);
        }
        Check.same("bytes are no tags", full().merged(most + "x}{{"), "x}{");
    }

    private static void tagsThatCount() {
        Check.sentence("(each time counts; a loop's begin once, an end and an else never)");
        String[] templates = {"{each t}{end}", "{each t}{if 0}{1}{else}{end}{end}",
            "{each t}{if 1}{let x=1}{else}{1}{1}{end}{end}", "{each t a=3}{let x=1}{end}",
            "{each t a=99}{let x=1}{end}", "{if 0}{let x=1}{let x=1}{end}", "{if 1}{else}{let x=1}{end}",
            "{each t}{each t a=a}{end}{end}", "x{{", "{if 0}{each t}{1}{end}{else}{each t}{end}{end}"};
        int[] done = {1, 17, 33, 2, 1, 1, 1, 17, 0, 2};
        for (int i = 0; i < templates.length; i++) {
            Desk desk = full();
            desk.merged(templates[i]);
            Check.same("done by " + templates[i], desk.about(3), done[i]);
        }
        Check.same("an else and ends behind the 3000th", full().merged(tags(2999) + "{if 0}{else}y{end}z"), "yz");
        Check.same("the end of a first part", full().merged(tags(2999) + "{if 1}y{else}{1}{end}z"), "yz");
        Check.same("a loop goes on without tags", full().merged(tags(2999) + "{each t}y{end}z"), "y".repeat(16) + "z");
        Check.same("the last of a loop's", full().merged(tags(2983) + "{each t}{1}{end}z"), "1".repeat(16) + "z");
        Check.same("one too many in a loop", full().merged(tags(2984) + "{each t}{1}{end}"),
                -50008 - tags(2984).length() + " " + "1".repeat(15));
        Check.same("the first in a loop", full().merged(tags(2999) + "{each t}y{1}{end}"),
                -50009 - tags(2999).length() + " y");
    }

    private static void beforeAnythingOfIt() {
        Check.sentence("5 .. before anything of it");
        String most = tags(3000);
        String[] tags = {"{nope}", "{1+'a'}", "{div(1,0)}", "{each nope}{end}", "{each t nope=1}{end}",
            "{if nope}{end}", "{let v=nope}", "{'a':2}", "{f(1)}"};
        for (String tag : tags) {
            Check.same(tag, full().merged(most + tag), -50000 - most.length() + " ");
        }
        String before = "{each t}{each t}{b>15}{let v=1}{''}{end}{end}" + tags(2215);
        String shown = "   abcdefghijkl".repeat(256);
        Check.same("3840 bytes and 3000 tags", full().merged(before), shown);
        Check.same("a tag that is too many, with bytes that are", full().merged(before + "{''>20}".repeat(9)),
                -50000 - before.length() + " " + shown);
        Check.same("a byte behind it", full().merged(before + "x"), shown + "x");
    }

    private static void functionsFirst() {
        Check.sentence("A function's name and how many arguments it has are looked at first");
        fault(1, "f('a'+1)", "f(div(1,0))", "f(1+'a',nope)", "pct('a'+1)", "abs(1,div(1,0))", "len(1,2)", "lt('a')",
                "min(f('a'+1),1)", "eq(1,1,div(1,0))", "div(1,0,0)", "sum(1+'a')", "count(item,1+'a')");
        Check.sentence("then .. a name alone, as it must be");
        fault(1, "count(1+'a')", "count(div(1,0))", "sum(1+'a',no)", "sum(item,1+'a')", "sum(item,div(1,0))",
                "sum(nope,div(1,0))");
    }

    private static void leftToRight() {
        Check.sentence("then its arguments from the left to the right, each worked out and looked at");
        fault(1, "min(nope,'a')", "min(nope,div(1,0))", "pct(nope,'a')", "div(nope,0)", "lt(nope,'a')",
                "eq(nope,1+'a')", "min(1,nope,'a')", "eq('a',nope)", "len(nope)");
        fault(2, "min('a',nope)", "min('a',div(1,0))", "pct('a',nope)", "div('a',0)", "div('a',nope)", "lt('a',nope)",
                "eq(1+'a',nope)", "min(1,'a',nope)", "div(0,'a')", "div(1,'a')", "pct(999999999999999,'a')",
                "lt(1,'a')");
        fault(3, "min(div(1,0),nope)", "min(div(1,0),'a')", "eq(div(1,0),nope)", "pct(999999999999999,101+0*div(1,0))",
                "lt(div(1,0),'a')", "len(div(1,0))");
        Check.sentence("in x op y likewise first x, then y");
        String[] operators = {"+", "-", "*"};
        for (String op : operators) {
            fault(1, "nope" + op + "'a'", "nope" + op + "div(1,0)", "1" + op + "nope" + op + "'a'");
            fault(2, "'a'" + op + "nope", "'a'" + op + "div(1,0)", "1" + op + "'a'" + op + "nope");
            fault(3, "div(1,0)" + op + "nope", "div(1,0)" + op + "'a'", "1" + op + "div(1,0)" + op + "'a'");
        }
        fault(2, "'a'+nope*1", "1+'a'*nope", "1*'a'+nope", "-'a'+nope");
        fault(1, "nope*1+'a'", "1+nope*'a'", "1*nope+'a'", "-nope+'a'");
        fault(3, "999999999999999+2+nope", "999999999999999*2+'a'", "div(1,0)*nope+'a'");
    }

    private static void eachInOrder() {
        Check.sentence("an {each}'s table first, then its column, then the value");
        due("{each nope nope=1+'a'}{end}", "-10000 ");
        due("{each nope no=div(1,0)}{end}", "-10000 ");
        due("{each item nope=1+'a'}{end}", "-10000 ");
        due("{each empty nope=div(1,0)}{end}", "-10000 ");
        due("{each item no=1+'a'}{end}", "-20000 ");
        due("{each empty x=1+'a'}{end}", "-20000 ");
        due("{each empty x=div(1,0)}{end}", "-30000 ");
        due("{each empty x=nope}{end}", "-10000 ");
    }

    private static void firstOneCounts() {
        Check.sentence("FAULTS end it, the first one counts");
        due("a{nope}b{1+'a'}c", "-10001 a");
        due("a{1+'a'}b{nope}c", "-20001 a");
        due("{let v=1}{div(1,0)}{let v=2}", "-30009 ");
        Desk desk = Desk.shop();
        Check.same("once it has ended", desk.merged("{let v=1}x{nope}{let v=2}{let w=3}y"), "-10010 x");
        Check.same("the variable from before", desk.variable("v"), 1);
        Check.same("none from behind", desk.variable("w"), Desk.NONE);
        Check.same("tags done", desk.about(3), 2);
        Check.same("variables set", desk.about(4), 1);
    }

    private static void places() {
        Check.sentence("made negative, 10000 times the fault and the place of the { of the tag in which it was");
        due("{nope}", "-10000 ");
        due("x{nope}", "-10001 x");
        due("{{{nope}", "-10002 {");
        due("{1}{2}{nope}", "-10006 12");
        due("{if 1}{nope}{end}", "-10006 ");
        due("{if 0}{else}{nope}{end}", "-10012 ");
        due("{if nope}{1}{end}", "-10000 ");
        due("{each item}{no}{if eq(no,2)}{nope}{end}{end}", "-10028 12");
        due("{each item}{each line no=nope}{1}{end}{end}", "-10011 ");
        due("{each item}{no}{end}{each nope}{end}", "-10020 123");
        due("{abs(abs(abs(nope)))}", "-10000 ");
        due("x".repeat(494) + "{nope}", "-10494 " + "x".repeat(494));
        due("x".repeat(489) + "{div(1,0)}", "-30489 " + "x".repeat(489));
    }

    private static void noTemplate() {
        Check.sentence("IllegalStateException when there is no template");
        Desk desk = new Desk();
        Check.same("a new object", desk.merge(), Desk.STATE);
        desk.compile("{");
        Check.same("a wrong one", desk.merge(), Desk.STATE);
        desk.compile("");
        Check.same("an empty one", desk.merge(), 0);
        Check.same("again", desk.merge(), 0);
        desk.compile("x".repeat(501));
        Check.same("too long a one", desk.merge(), Desk.STATE);
        Check.same("still none", desk.merge(), Desk.STATE);
        Check.same("a right one", desk.merged("{nope}"), "-10000 ");
        Check.same("a fault leaves the template", desk.merge(), -10000);
    }
}
