import java.math.BigDecimal;

/** A TEMPLATE, and what MERGING prints for it. */
public final class TemplateBoundsTest {
    private static final String[] SIXTEEN = "0 1 2 3 4 5 6 7 8 9 10 11 12 13 14 15".split(" ");

    public static void main(String[] args) {
        lengths();
        bytesForThemselves();
        doubledBraces();
        values();
        points();
        widths();
        eachRecord();
        eachWhere();
        workedOutOnce();
        ifValues();
        let();
        oneSpace();
        leftToRight();
        eightDeep();
        sixOpen();
        manyTags();
        innermost();
        Check.end();
    }

    private static void due(String template, Object want) {
        Check.same(template, Desk.shop().merged(template), want);
    }

    private static void lengths() {
        Check.sentence("A TEMPLATE is a text of at most 500 bytes");
        int[] lengths = {0, 1, 499, 500};
        for (int length : lengths) {
            due("x".repeat(length), "x".repeat(length));
        }
        due("x".repeat(497) + "{7}", "x".repeat(497) + "7");
        due("x".repeat(498) + "{{", "x".repeat(498) + "{");
        due("x".repeat(501), "compile 501");
    }

    private static void bytesForThemselves() {
        Check.sentence("A byte that is not { stands for itself");
        StringBuilder all = new StringBuilder();
        for (int b = 0; b <= 255; b++) {
            if (b != '{') {
                all.append((char) b);
            }
        }
        due(all.toString(), all);
        Desk desk = new Desk();
        desk.merged("\u0000\u007f\u0080\u00ff");
        int[] want = {0, 127, 128, 255};
        for (int i = 0; i < want.length; i++) {
            Check.same("byte " + i, desk.out(i), want[i]);
        }
        due("}}a}", "}}a}");
        due("{1}}", "1}");
        due(";'each end", ";'each end");
    }

    private static void doubledBraces() {
        Check.sentence("{{ stands for one {; all else that begins with { is a TAG, up to its }");
        due("{{", "{");
        due("{{{{", "{{");
        due("{{a}", "{a}");
        due("{{{1}", "{1");
        due("{{{{1}", "{{1}");
        due("{1}{{", "1{");
        due("{{end}{{if 1}", "{end}{if 1}");
        due("{'{'}{'{{'}", "{{{");
    }

    private static void values() {
        Check.sentence("prints a value: a word as it is, a number with a - before it if it is below 0, and its digits");
        due("{''}{' '}{'abcdefghijkl'}{'{~'}", " abcdefghijkl{~");
        due("{0}", "0");
        due("{-0}", "0");
        due("{1}", "1");
        due("{-1}", "-1");
        due("{9}{10}{-9}{-10}", "910-9-10");
        due("{000000000000001}", "1");
        due("{999999999999999}", "999999999999999");
        due("{-999999999999999}", "-999999999999999");
        due("{'-0'}{'007'}", "-0007");
    }

    private static void points() {
        Check.sentence("{EXPR:P}, P 1 to 4, prints a number with so many digits behind a point "
                + "(at least one before it)");
        String[] numbers = {"0", "1", "9", "10", "99", "100", "999", "1000", "9999", "10000", "99999", "100000", "-1",
            "-9", "-10", "-99", "-100", "-999", "-1000", "-9999", "-10000", "-99999", "999999999999999",
            "-999999999999999"};
        for (String number : numbers) {
            for (int points = 1; points <= 4; points++) {
                String want = new BigDecimal(number).movePointLeft(points).setScale(points).toPlainString();
                due("{" + number + ":" + points + "}", want);
            }
        }
        due("{0:1}|{0:4}|{-1:4}|{-10000:4}", "0.0|0.0000|-0.0001|-1.0000");
        due("{999999999999999+1:1}", "100000000000000.0");
        due("{-999999999999999-1:4}", "-100000000000.0000");
        due("{'a':1}", "-20000 ");
    }

    private static void widths() {
        Check.sentence("Behind that may stand >W or <W, W 1 to 20: "
                + "spaces come before, or behind, until there are W bytes");
        String[] shown = {"", "a", "abcdefghijkl"};
        for (int width = 1; width <= 20; width++) {
            for (String word : shown) {
                String spaces = " ".repeat(Math.max(0, width - word.length()));
                due("{'" + word + "'>" + width + "}|", spaces + word + "|");
                due("{'" + word + "'<" + width + "}|", word + spaces + "|");
            }
            String spaces = " ".repeat(Math.max(0, width - 5));
            due("{-12:2>" + width + "}|", spaces + "-0.12|");
            due("{-12:2<" + width + "}|", "-0.12" + spaces + "|");
        }
        due("{123>2}{123>3}{123>4}", "123123 123");
        due("{123<2}{123<3}{123<4}.", "123123123 .");
        due("{-999999999999999-1:4>19}|{-999999999999999-1:4>20}", " -100000000000.0000|  -100000000000.0000");
        due("{-999999999999999-1:4>18}|{-999999999999999-1:4<17}|", "-100000000000.0000|-100000000000.0000|");
    }

    private static void eachRecord() {
        Check.sentence("{each T} ... {end}: what is between, once for each record of the table, in order");
        Check.same("none", Desk.of("t a").merged("<{each t}{a} {end}>"), "<>");
        Check.same("one", Desk.of("t a", "7").merged("<{each t}{a} {end}>"), "<7 >");
        Check.same("sixteen", Desk.of("t a", SIXTEEN).merged("{each t}{a} {end}"), String.join(" ", SIXTEEN) + " ");
        Check.same("nothing between", Desk.of("t a", SIXTEEN).merged("{each t}{end}."), ".");
        Check.same("two loops", Desk.of("t a", "1", "2").merged("{each t}{a}{end}{each t}{a}{end}"), "1212");
        Check.same("one within the other", Desk.of("t a", "1", "2").with("u b", "x", "y")
                .merged("{each t}{each u}{a}{b} {end}{end}"), "1x 1y 2x 2y ");
        Desk four = Desk.of("t a").with("u a").with("v a").with("w a", "5");
        Check.same("the last of four tables", four.merged("{each w}{a}{end}"), "5");
    }

    private static void eachWhere() {
        Check.sentence("{each T C=EXPR}: for those whose cell in column C is equal to the value");
        Desk desk = Desk.of("t k v", "1;a", "01;b", "x;c", "-1;d", ";e", "1x;f", "1;g", "0;h", "abcdefghijkl;i",
                "abcdefghijkm;j");
        String[][] keys = {{"1", "abg"}, {"'1'", ""}, {"'x'", "c"}, {"-1", "d"}, {"''", "e"}, {"0", "h"}, {"2", ""},
            {"' '", ""}, {"'1x'", "f"}, {"'X'", ""}, {"2-1", "abg"}, {"'abcdefghijkl'", "i"}, {"'abcdefghijkm'", "j"},
            {"'abcdefgh'", ""}};
        for (String[] key : keys) {
            Check.same("k=" + key[0], desk.merged("{each t k=" + key[0] + "}{v}{end}"), key[1]);
        }
        Check.same("the last column", desk.merged("{each t v='g'}{k}{end}"), "1");
        Check.same("none of no record", Desk.of("t a").merged("{each t a=1}x{end}"), "");
    }

    private static void workedOutOnce() {
        Check.sentence("the value, which is worked out once, before the loop begins");
        due("{let n=2}{each line no=n}{let n=9}{qty} {end}", "3 1 ");
        due("{let n=2}{each line no=n}{let n=n+1}{end}{n}", "4");
        due("{each line no=no}{end}", "-10000 ");
        due("{let no=1}{each line no=no}{qty}{end}", "10");
        due("{each item}{each line no=no}{name}{qty} {end}{end}", "Pen10 Ink3 Ink1 ");
    }

    private static void ifValues() {
        Check.sentence("the first part if the value is a number that is not 0, or a word that is not empty; "
                + "otherwise the second one");
        String[] first = {"1", "-1", "999999999999999", "' '", "'0'", "'abcdefghijkl'", "2-1", "lt(0,1)"};
        String[] second = {"0", "-0", "''", "1-1", "lt(1,0)", "000"};
        for (String value : first) {
            due("<{if " + value + "}a{else}b{end}>", "<a>");
            due("<{if " + value + "}a{end}>", "<a>");
        }
        for (String value : second) {
            due("<{if " + value + "}a{else}b{end}>", "<b>");
            due("<{if " + value + "}a{end}>", "<>");
        }
        due("{if 1}{else}b{end}.{if 0}a{else}{end}.", "..");
        due("{if 0}{if 1}a{else}b{end}{else}{if 0}c{else}d{end}{end}", "d");
        due("{if 0}{nope}{else}ok{end}{if 1}ok{else}{nope}{end}", "okok");
    }

    private static void let() {
        Check.sentence("{let N=EXPR}: the variable N has that value from then on");
        due("{let a=1}{a}", "1");
        due("{a}{let a=1}", "-10000 ");
        due("{let a=a}", "-10000 ");
        due("{let a=1}{let a=a+1}{let a=a+1}{a}", "3");
        due("{let a=1}{let a='w'}{a}{let a=2}{a}", "w2");
        due("{if 0}{let a=1}{end}{a}", "-10020 ");
        due("{if 1}{let a=1}{end}{a}", "1");
        due("{each line}{let a=qty}{end}{a}", "9");
        due("{each empty}{let a=1}{end}{a}", "-10026 ");
        Check.sentence("(no variable is set when it begins)");
        Desk desk = new Desk();
        desk.merged("{let a=1}");
        Check.same("another merge", desk.merged("{a}"), "-10000 ");
        desk.compile("{if a}{end}{let a=1}");
        Check.same("once", desk.merge(), -10000);
        desk.compile("{let a=1}{b}");
        Check.same("a fault", desk.merge(), -10009);
        Check.same("the same once more", desk.merge(), -10009);
        Check.same("a is gone", desk.merged("{a}"), "-10000 ");
    }

    private static void oneSpace() {
        Check.sentence("One space stands behind each, if, let, and before a column, nowhere else");
        due("{each line no=9}{qty}{end}{if 1}x{end}{let a=1}", "9x");
        String[] wrong = {"{each ^ line}{end}", "{if ^ 1}{end}", "{let ^ a=1}", "{each line ^ no=1}{end}",
            "{each^}{end}", "{if^}{end}", "{let^}", "{^ each line}{end}", "{each line ^}{end}",
            "{each line no^ =1}{end}", "{each line no=^ 1}{end}", "{each line no=1^ }{end}", "{if 1^ }{end}",
            "{let a^ =1}", "{let a=^ 1}", "{let a=1^ }", "{^ 1}", "{1^ }", "{1^ +1}", "{1+^ 1}", "{1*^ 1}", "{-^ 1}",
            "{(^ 1)}", "{(1^ )}", "{abs^ (1)}", "{abs(^ 1)}", "{abs(1^ )}", "{min(1^ ,2)}", "{min(1,^ 2)}", "{1^ :2}",
            "{1:^ 2}", "{1:2^ }", "{1:2^ >3}", "{1>^ 3}", "{1>3^ }", "{if 1}{^ end}", "{if 1}{end^ }",
            "{if 1}{else^ }{end}"};
        for (String marked : wrong) {
            due(marked.replace("^", ""), "compile " + (marked.indexOf('^') + 1));
        }
        due("{len(' a ')}{' '}", "3 ");
    }

    private static void leftToRight() {
        Check.sentence("TERMS with + or - between; a term: FACTORS with * between, all from the left to the right");
        due("{10-2-3}", 5);
        due("{10-2+3}", 11);
        due("{2+3*4}", 14);
        due("{2*3+4}", 10);
        due("{2*3*4-5*6}", -6);
        due("{1-2*3-4}", -9);
        due("{(1-2)*3}", -3);
        due("{1-(2-3)}", 2);
        due("{-2*3}{-2-3}{2--3}{2*-3}", "-6-55-6");
        due("{-(2-3)*-4}", -4);
        due("{999999999999999+1-1}", 999999999999999L);
        due("{999999999999999+2-2}", "-30000 ");
        due("{2-2+999999999999999+1}", 1000000000000000L);
        due("{1" + "+1".repeat(248) + "}", 249);
        due("{1" + "*1".repeat(248) + "}", 1);
        due("{" + "1+2-".repeat(124) + "9}", 3 + 123 - 9);
    }

    private static void eightDeep() {
        Check.sentence("Factors are at most eight deep");
        due("{(((((((5)))))))}", 5);
        due("{-------5}", -5);
        due("{abs(abs(abs(abs(abs(abs(abs(5-9)))))))}", 4);
        due("{abs(-(-abs(-(5*3))))}", 15);
        due("{((((((((5))))))))}", "compile 9");
        due("{--------5}", "compile 9");
        due("{abs(abs(abs(abs(abs(abs(abs(-5)))))))}", "compile 30");
        String mixed = "1+2*min(9,".repeat(7) + "1+1*1" + ")".repeat(7);
        due("{" + mixed + "}", 19);
        due("{each item no=" + mixed + "-17}{name}{end}", "Ink");
    }

    private static void sixOpen() {
        Check.sentence("At most six tags each and if are open one within the other");
        due("{each item no=1}".repeat(6) + "{name}" + "{end}".repeat(6), "Pen");
        due("{each item no=1}".repeat(6) + "{if 1}" + "{end}".repeat(7), "compile 97");
        due("{if 1}".repeat(6) + "a" + "{end}b".repeat(6), "abbbbbb");
        due("{if 0}{else}".repeat(6) + "a" + "{end}b".repeat(6), "abbbbbb");
        due("{each item}{if no-1}".repeat(3) + "x" + "{end}".repeat(6), "x".repeat(8));
    }

    private static void manyTags() {
        Check.sentence("At most 120 tags");
        due("{7}".repeat(120), "7".repeat(120));
        due("{7}".repeat(121), "compile 361");
        due("{7}".repeat(120) + "{{", "7".repeat(120) + "{");
    }

    private static void innermost() {
        Check.sentence("a NAME stands for the cell of the column that has it in the record of the innermost {each} "
                + "that has such a column, else for the variable, if it was set");
        Desk desk = Desk.of("t a b", "1;2").with("u a c", "3;4").with("v d", "5");
        Check.same("the innermost that has it",
                desk.merged("{let a=8}{let x=9}{each t}{each u}{each v}{a}{b}{c}{d}{x}{end}{end}{end}"), "32459");
        Check.same("the outer one again", desk.merged("{each t}{each u}{a}{end}{a}{end}"), "31");
        Check.same("the variable again", desk.merged("{let a=8}{each t}{a}{end}{a}"), "18");
        Check.same("a variable that a column hides", desk.merged("{each t}{let a=8}{a}{end}{a}"), "18");
        Check.same("nothing behind the loop", desk.merged("{each t}{a}{end}{a}"), "-10016 1");
        Check.same("nothing before the loop", desk.merged("{a}{each t}{end}"), "-10000 ");
        Check.same("a table's name is no value", desk.merged("{t}"), "-10000 ");
        Check.same("the same table twice", Desk.of("t a", "1", "2").merged("{each t}{each t}{a}{end}{a} {end}"),
                "121 122 ");
    }
}
