/** Promise 8: what tags print, choices, variables and loops; promises 9 and 10. */
public final class PrintTest {
    public static void main(String[] args) {
        values();
        money();
        widths();
        choices();
        variables();
        loops();
        scopes();
        largest();
        output();
        Check.end();
    }

    private static void due(String template, String want) {
        Check.same(template, Desk.shop().merged(template), want);
    }

    private static void values() {
        due("a{{b}c", "a{b}c");
        due("{{{1}}", "{1}");
        due("{'{'}{' a'}{''}", "{ a");
        due("{7}{-7}{-0}{007}", "7-707");
        due("{999999999999999+1}{-999999999999999-1}", "1000000000000000-1000000000000000");
        due("\u0001\u00ff", "\u0001\u00ff");
        due("{1+2*3-4}", "3");
        due("{10-2-3}", "5");
        due("{2*(3+4)}", "14");
        due("{-2*3}{--2}{2*-3}", "-62-6");
        due("{-(1-2)*-3}", "-3");
    }

    private static void money() {
        due("{0:2}", "0.00");
        due("{5:2}", "0.05");
        due("{-5:2}", "-0.05");
        due("{123:2}{-123:1}{123:3}{123:4}", "1.23-12.30.1230.0123");
        due("{100:2}", "1.00");
        due("{999999999999999+1:4}", "100000000000.0000");
        due("{-999999999999999-1:1}", "-100000000000000.0");
        due("{12345:4}", "1.2345");
    }

    private static void widths() {
        due("{7>3}|{7<3}|", "  7|7  |");
        due("{1234>3}|{1234<3}|", "1234|1234|");
        due("{'ab'>4}|{'ab'<4}|{''>2}|", "  ab|ab  |  |");
        due("{-5:2>8}|{-5:2<8}|", "   -0.05|-0.05   |");
        due("{1>20}|", " ".repeat(19) + "1|");
        due("{'abcdefghijkl'<20}|", "abcdefghijkl        |");
        due("{-999999999999999-1:4>20}|", "  -100000000000.0000|");
        due("{1>1}{1<9}|", "11        |");
    }

    private static void choices() {
        due("{if 1}a{else}b{end}", "a");
        due("{if -1}a{else}b{end}", "a");
        due("{if 0}a{else}b{end}", "b");
        due("{if 'x'}a{else}b{end}", "a");
        due("{if '0'}a{else}b{end}", "a");
        due("{if ''}a{else}b{end}", "b");
        due("{if 0}a{end}c", "c");
        due("{if 1}{else}b{end}c", "c");
        due("{if 1}{if 0}a{else}b{end}{else}{if 1}c{end}{end}d", "bd");
        due("{if 0}{if 0}a{else}b{end}{else}{if 1}c{end}{end}d", "cd");
        due("{if 0}{x}{let y=z}{each q}{end}{else}ok{end}", "ok");
        due("{if 1}ok{else}{f(1)}{end}", "ok");
    }

    private static void variables() {
        due("{let a=1}{let b=a+1}{let a='w'}{a}{b}", "w2");
        due("{let a=5}{let a=a*a}{a}", "25");
        due("{let s=0}{each line}{let s=s+qty}{end}{s}", "23");
        Desk desk = Desk.shop();
        desk.merged("{let a=1}{let w='x'}{let a=a-43}{let big=-999999999999999-1}");
        Check.same("a", desk.variable("a"), -42);
        Check.same("big", desk.variable("big"), -1000000000000000L);
        Check.same("a word", desk.variable("w"), Desk.NONE);
        String[] none = {"b", "", "A", "a ", " a", "let", "abcdefghi", "bigg", "bi", "1"};
        for (String name : none) {
            Check.same("variable " + name, desk.variable(name), Desk.NONE);
        }
        Check.same("three are set", desk.about(4), 3);
        desk.compile("{let c=1}{let d=nope}");
        Check.same("before the next merge", desk.variable("a"), -42);
        desk.merge();
        Check.same("none from before", desk.variable("a"), Desk.NONE);
        Check.same("what was set before the fault", desk.variable("c"), 1);
        Check.same("not by the fault", desk.variable("d"), Desk.NONE);
        desk.compile("{");
        desk.merge();
        Check.same("a merge that throws changes nothing", desk.variable("c"), 1);
    }

    private static void loops() {
        due("{each line}{no}:{qty} {end}", "2:3 1:10 2:1 9:9 ");
        due("{each line no=2}{qty} {end}", "3 1 ");
        due("{each line no='2'}{qty} {end}", "");
        due("{each item name='Ink'}{price}{end}", "2999");
        due("{each item name=''}{no}{end}", "3");
        due("{each empty}{nope}{end}.", ".");
        due("{each empty x=1}{nope}{end}.", ".");
        due("{each line}{each item no=no}{name}{qty} {end}{end}", "Ink3 Pen10 Ink1 ");
        due("{each line}{each line}{no}{end}|{end}", "2129|2129|2129|2129|");
        due("{let n=1}{each line no=n}{let n=2}{qty}{end}{n}", "102");
        due("{each item}{if len(name)}{name}{else}-{end}{end}", "PenInk-");
        due("{each item}{each item}{each item}{no}{end}{end}{end}", "123".repeat(9));
    }

    private static void scopes() {
        due("{let no=7}{no}{each item}{no}{end}{no}", "71237");
        due("{each item}{let no=no*10}{no}{end}{no}", "12330");
        due("{each line}{each item no=1}{no}{qty}{end}{end}", "13110111" + "9");
        due("{each item no=1}{each line}{no}{name}{end}{end}", "2Pen1Pen2Pen9Pen");
        due("{let item=5}{item}{count(item)}", "53");
        due("{let min=4}{min}{min(min,5)}", "44");
    }

    /** The templates that need most room for their code, their values and their variables. */
    private static void largest() {
        due("{1" + "+1".repeat(248) + "}", "249");
        due("{1" + "--1".repeat(165) + "}", "166");
        due("{1" + "--------1".repeat(55) + "}", "56");
        due("{min(" + "9,".repeat(245) + "3)}", "3");
        due("{min(" + "-9,".repeat(163) + "3)}", "-9");
        String deep = "1+1*pct(100,".repeat(7) + "1+1*1" + ")".repeat(7);
        due("{" + deep + "}", "9");
        due("{each item no=" + deep + "-6}{price}{end}", "-5");
        due("{each item}".repeat(6) + "{end}".repeat(6), "");
        due("{each item no=1}".repeat(6) + "{name}" + "{end}".repeat(6), "Pen");
        due("{each item no=1}{each item no=2}".repeat(3) + "{name}" + "{end}".repeat(6), "Ink");
        StringBuilder lets = new StringBuilder();
        for (char c = 'a'; c <= 'z'; c++) {
            lets.append("{let ").append(c).append("=1}");
        }
        for (char c = 'a'; c <= 'y'; c++) {
            lets.append("{let z").append(c).append("=2}");
        }
        Desk desk = new Desk();
        Check.same("many variables", desk.merged(lets + "{zy+z+za}"), "5");
        Check.same("51 of them", desk.about(4), 51);
    }

    private static void output() {
        Desk desk = Desk.shop();
        Check.same("merge", desk.merged("abc"), "abc");
        Check.same("size", desk.size(), 3);
        Check.same("out 2", desk.out(2), 'c' + 0);
        int[] nowhere = {-1, 3, 4000, Integer.MAX_VALUE, Integer.MIN_VALUE};
        for (int i : nowhere) {
            Check.same("out " + i, desk.out(i), Desk.INDEX);
        }
        desk.compile("xy{1}");
        Check.same("of the latest merge", desk.output(), "abc");
        Check.same("merge", desk.merge(), 3);
        Check.same("the new one", desk.output(), "xy1");
        desk.cell(0, 0, 0, "88");
        desk.compile("{each item no=88}{name}{end}");
        Check.same("merge once", desk.merge(), 3);
        desk.drop(0, 0);
        Check.same("the tables as they are now", desk.merge(), 0);
        Check.same("size", desk.size(), 0);
        Check.same("out 0", desk.out(0), Desk.INDEX);
    }
}
