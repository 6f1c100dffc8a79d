/** Promise 8: the faults, their order and their places; promise 12. */
public final class FaultTest {
    public static void main(String[] args) {
        nothing();
        wrongKind();
        tooLarge();
        order();
        places();
        tooLong();
        tooMany();
        about();
        Check.end();
    }

    private static void due(String template, String want) {
        Check.same(template, Desk.shop().merged(template), want);
    }

    private static void fault(int fault, String... exprs) {
        for (String expr : exprs) {
            due("{" + expr + "}", -10000 * fault + " ");
        }
    }

    private static void nothing() {
        fault(1, "x", "no", "f(1)", "pct", "pct(1)", "pct(1,2,3)", "div(1)", "abs(1,2)", "len('a','b')",
                "eq(1)", "eq(1,2,3)", "lt(1)", "lt(1,2,3)", "sum(item)", "sum(item,no,no)", "count(item,no)",
                "count(nope)", "sum(nope,no)", "sum(item,nope)", "sum(item,qty)", "count((item))",
                "count('item')", "count(1)", "count(-item)", "count(item+1)", "count(count(item))",
                "sum(item,(no))", "sum(item,'no')", "sum(item,1)", "sum((item),no)", "sum(min(item),no)",
                "minm(1)", "item", "x+1", "1+x", "-x", "(x)", "min(1,x)");
        due("{each nope}{end}", "-10000 ");
        due("{each item nope=1}{end}", "-10000 ");
        due("{each empty nope=1}{end}", "-10000 ");
        due("{each item no=x}{end}", "-10000 ");
        due("{each empty x=nope}{end}", "-10000 ");
        due("{let a=a}", "-10000 ");
        due("{if a}{end}", "-10000 ");
        due("{each item}{end}{no}", "-10016 ");
    }

    private static void wrongKind() {
        fault(2, "'a'+1", "1+'a'", "'a'-1", "1-'a'", "'a'*1", "1*'a'", "-'a'", "-''", "pct('1',1)", "pct(1,'1')",
                "div('a',1)", "div(1,'a')", "min('a')", "min(1,'a')", "max('a',1)", "max(1,2,'a')", "abs('a')",
                "len(1)", "len(len('a'))", "lt('a','b')", "lt(1,'b')", "'a':2", "'':1", "'1'+1", "('a')+1",
                "div(0,'a')");
        due("{each item}{name:2}{end}", "-20011 ");
        due("{let a='w'}{a*2}", "-20011 ");
        due("{each item}{-name}{end}", "-20011 ");
    }

    private static void tooLarge() {
        fault(3, "999999999999999+2", "-999999999999999-2", "999999999999999*2", "100000000*10000001",
                "999999999999999*999999999999999", "999999999999999*999999999999999*999999999999999",
                "-999999999999999*999999999999999", "div(1,0)", "div(0,0)", "999999999999999+2-5",
                "min(1,999999999999999*2)", "0*(999999999999999+2)", "eq(999999999999999+2,1)",
                "4294967296*4294967296", "3037000500*3037000500");
        due("{100000000*10000000}", "1000000000000000");
        due("{-100000000*10000000}", "-1000000000000000");
        due("{let a=999999999999999*2}", "-30000 ");
        due("{if 999999999999999*2}{end}", "-30000 ");
        due("{each item no=999999999999999*2}{end}", "-30000 ");
    }

    private static void order() {
        fault(1, "f('a'+1)", "f(1+'a',x)", "pct('a'+1)", "abs(1,div(1,0))", "len(1,2)", "min(x,'a')",
                "x+'a'", "x+1+'a'", "count(1+'a')", "sum(item,1+'a')", "sum(nope,1*'a')",
                "eq(x,1+'a')", "min(1,x,'a')", "min(f('a'),1)", "count(div(1,0))");
        fault(2, "'a'+x", "'a'*x", "min('a',x)", "pct('a',x)", "1+'a'+x", "1+'a'*x", "lt('a',x)", "lt('a',1)",
                "div('a',0)", "eq('a'+1,x)", "len(1)+x", "-'a'+x",
                "div(1,'a'+x)");
        fault(3, "div(1,0)+x", "div(1,0)+'a'", "999999999999999*2+'a'", "min(999999999999999+2,x)");
        due("{each nope x=1+'a'}{end}", "-10000 ");
        due("{each item nope=1+'a'}{end}", "-10000 ");
        due("{each item no=1+'a'}{end}", "-20000 ");
        due("{x}{1+'a'}", "-10000 ");
    }

    private static void places() {
        due("abc{1}{x}", "-10006 abc1");
        due("{if 1}a{x}{end}", "-10007 a");
        due("{if 0}{else}b{1+''}{end}", "-20013 b");
        due("{each item}{if eq(no,3)}{1*name}{end}{no}{end}", "-20024 12");
        due("{{{{{x}", "-10004 {{");
        due("x".repeat(497) + "{a}", "-10497 " + "x".repeat(497));
    }

    private static Desk full(int records) {
        Desk desk = new Desk();
        desk.table("t a b");
        for (int i = 0; i < records; i++) {
            desk.record(0, i + ";abcdefghij");
        }
        return desk;
    }

    private static void tooLong() {
        String ten = "abcdefghij";
        Desk desk = full(10);
        String many = "{each t}{each t}{b}{b}{b}{b}{end}{end}";
        Check.same("just 4000", desk.merged(many), ten.repeat(400));
        Check.same("one byte more", desk.merged(many + "{''}x"), "-40042 " + ten.repeat(400));
        Check.same("one { more", desk.merged(many + "{{"), "-40038 " + ten.repeat(400));
        Check.same("a tag more", desk.merged(many + "{1}"), "-40038 " + ten.repeat(400));
        Check.same("spaces more", desk.merged(many + "{''>1}"), "-40038 " + ten.repeat(400));
        Check.same("an empty word more", desk.merged(many + "{''}{let a=1}{if a}{end}"), ten.repeat(400));
        Check.same("half a tag", desk.merged("xyz" + many), "-40028 xyz" + ten.repeat(399) + "abcdefg");
        Check.same("half the spaces", desk.merged("123" + many.substring(0, 25) + "{''>10}" + "{end}{end}"),
                "-40028 123" + (ten.repeat(3) + " ".repeat(10)).repeat(99) + ten.repeat(3) + " ".repeat(7));
        Check.same("size", desk.size(), 4000);
        Check.same("the last byte", desk.out(3999), 32);
        Check.same("none behind it", desk.out(4000), Desk.INDEX);
        Check.same("a fault before too many bytes", desk.merged(many + "{x>20}"), "-10038 " + ten.repeat(400));
    }

    private static void tooMany() {
        Desk desk = full(16);
        String loops = "{each t}{each t}{each t a=a}{let x=1}{end}{end}{end}";
        Check.same("1 + 16 + 256 * 2", desk.merged(loops), "");
        Check.same("done", desk.about(3), 529);
        String five = loops.repeat(5);
        Check.same("five times", desk.merged(five), "");
        Check.same("done", desk.about(3), 2645);
        String rest = "{each t}{each t}{''}{end}{end}";
        Check.same("1 + 16 + 256 more, and 8", desk.merged(five + rest + "{each t a=0}{end}".repeat(8)), "");
        Check.same("done", desk.about(3), 2926);
        String upTo = five + rest + "{each t}{1}{1}{1}{1}{end}" + "{1}".repeat(17);
        Check.same("3000 just", desk.merged(upTo), "1".repeat(81));
        Check.same("done", desk.about(3), 3000);
        Check.same("a byte more", desk.merged(upTo + "z{{"), "1".repeat(81) + "z{");
        int place = upTo.length() + 1;
        String before = " " + "1".repeat(81) + "z";
        String[] more = {"{x}", "{1}", "{1+''}", "{if 1}{end}", "{each nope}{end}", "{let a=1}"};
        for (String tag : more) {
            desk = full(16);
            Check.same("a 3001st: " + tag, desk.merged(upTo + "z" + tag), -(50000 + place) + before);
            Check.same("done", desk.about(3), 3000);
        }
        Check.same("the variable is not set", desk.variable("a"), Desk.NONE);
    }

    private static void about() {
        Desk desk = Desk.shop();
        Check.same("tables", desk.about(0), 3);
        Check.same("records", desk.about(1), 7);
        desk.compile("{let a=1}{let b=2}{let a=3}{if 0}{1}{else}{2}{end}{each line}{end}");
        Check.same("tags", desk.about(2), 10);
        Check.same("none done before merge", desk.about(3), 0);
        Check.same("none set before merge", desk.about(4), 0);
        desk.merge();
        Check.same("done", desk.about(3), 6);
        Check.same("set", desk.about(4), 2);
        desk.compile("{let a=1}");
        Check.same("tags of the new one", desk.about(2), 1);
        Check.same("done by the latest merge", desk.about(3), 6);
        desk.merge();
        Check.same("done", desk.about(3), 1);
        Check.same("set", desk.about(4), 1);
        desk.drop(0, 0);
        Check.same("records after a drop", desk.about(1), 6);
        int[] other = {-1, 5, Integer.MAX_VALUE, Integer.MIN_VALUE};
        for (int what : other) {
            Check.same("about " + what, desk.about(what), Desk.INDEX);
        }
    }
}
