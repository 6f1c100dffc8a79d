import java.math.BigDecimal;
import java.math.RoundingMode;

/** FUNCTIONS, at the edges of what each takes and answers. */
public final class FunctionBoundsTest {
    private static final long MOST = 1000000000000000L;
    /** 10^15 as an EXPR, as only 15 digits can be written. */
    private static final String HIGH = "(999999999999999+1)";
    private static final String LOW = "(-999999999999999-1)";

    public static void main(String[] args) {
        pct();
        pctProduct();
        div();
        minAndMax();
        abs();
        len();
        eq();
        lt();
        sum();
        count();
        soManyArguments();
        namesAlone();
        Check.end();
    }

    private static void due(String expr, Object want) {
        Check.same(expr, Desk.shop().merged("{" + expr + "}"), want);
    }

    private static void fault(int fault, String... exprs) {
        for (String expr : exprs) {
            due(expr, -10000 * fault + " ");
        }
    }

    private static void pct() {
        Check.sentence("pct(x, p): x * p / 100, rounded to the nearest, halves to the even one");
        for (long x = -1060; x <= 1060; x++) {
            due("pct(" + x + ",1)", rounded(x));
        }
        for (long x = -30; x <= 30; x++) {
            for (long p : new long[] {-150, -50, -25, 25, 50, 75, 150}) {
                due("pct(" + x + "," + p + ")", rounded(x * p));
            }
        }
        due("pct(50,1)", 0);
        due("pct(49,1)", 0);
        due("pct(51,1)", 1);
        due("pct(150,1)", 2);
        due("pct(149,1)", 1);
        due("pct(250,1)", 2);
        due("pct(251,1)", 3);
        due("pct(-50,1)", 0);
        due("pct(-51,1)", -1);
        due("pct(-150,1)", -2);
        due("pct(-149,1)", -1);
        due("pct(-250,1)", -2);
        due("pct(-251,1)", -3);
        due("pct(999999999999999,50)", 500000000000000L);
        due("pct(999999999999997,50)", 499999999999998L);
        due("pct(-999999999999999,50)", -500000000000000L);
    }

    private static String rounded(long product) {
        return new BigDecimal(product).divide(new BigDecimal(100), 0, RoundingMode.HALF_EVEN).toPlainString();
    }

    private static void pctProduct() {
        Check.sentence("a product in pct beyond 10^17");
        due("pct(" + HIGH + ",100)", MOST);
        due("pct(" + LOW + ",100)", -MOST);
        due("pct(100," + LOW + ")", -MOST);
        due("pct(" + LOW + ",-100)", MOST);
        // 10^17 - 1 and 10^17 + 1
        due("pct(5363222357,18645507)", MOST);
        due("pct(-5363222357,18645507)", -MOST);
        fault(3, "pct(21993833369,4546729)", "pct(-21993833369,4546729)", "pct(21993833369,-4546729)",
                "pct(-21993833369,-4546729)", "pct(4546729,21993833369)");
        fault(3, "pct(" + HIGH + ",101)", "pct(101," + LOW + ")", "pct(" + HIGH + "," + HIGH + ")",
                "pct(" + LOW + "," + LOW + ")");
        // beyond what a long holds: 2^64, and 2^64 + 2^33
        fault(3, "pct(4294967296,4294967296)", "pct(8589934592,2147483649)");
        due("pct(" + HIGH + ",0)", 0);
        due("pct(0," + HIGH + ")", 0);
    }

    private static void div() {
        Check.sentence("div(x, y): x / y, rounded towards 0");
        for (int x = -9; x <= 9; x++) {
            for (int y = -4; y <= 4; y++) {
                due("div(" + x + "," + y + ")", y == 0 ? "-30000 " : String.valueOf(x / y));
            }
        }
        due("div(" + HIGH + ",-1)", -MOST);
        due("div(" + LOW + ",-1)", MOST);
        due("div(" + LOW + "," + HIGH + ")", -1);
        due("div(999999999999999," + HIGH + ")", 0);
        fault(3, "div(1,0)", "div(0,0)", "div(-1,0)", "div(1,1-1)");
    }

    private static void minAndMax() {
        Check.sentence("min and max of one or more numbers");
        due("min(5)", 5);
        due("max(-5)", -5);
        due("min(1,2)", 1);
        due("min(2,1)", 1);
        due("max(1,2)", 2);
        due("max(2,1)", 2);
        due("min(3,3)", 3);
        due("min(-1,0)", -1);
        due("max(-1,0)", 0);
        due("min(" + HIGH + "," + LOW + ")", -MOST);
        due("max(" + LOW + "," + HIGH + ")", MOST);
        int[] counts = {3, 7, 100, 245};
        for (int count : counts) {
            due("min(" + "9,".repeat(count - 1) + "3)", 3);
            due("min(3" + ",9".repeat(count - 1) + ")", 3);
            due("max(" + "3,".repeat(count - 1) + "9)", 9);
            due("max(9" + ",3".repeat(count - 1) + ")", 9);
        }
        fault(2, "min('a')", "max('')", "min(1,'a')", "max('a',1)", "min(1,2,3,4,5,6,7,8,'a')");
        Check.same("min of none", new Desk().compile("{min()}"), 6);
    }

    private static void abs() {
        Check.sentence("abs(x)");
        due("abs(0)", 0);
        due("abs(-1)", 1);
        due("abs(1)", 1);
        due("abs(" + HIGH + ")", MOST);
        due("abs(" + LOW + ")", MOST);
        fault(2, "abs('')", "abs('-1')");
    }

    private static void len() {
        Check.sentence("len(w): how many bytes a word has");
        for (int length = 0; length <= 12; length++) {
            due("len('" + "x".repeat(length) + "')", length);
        }
        due("len('123')", 3);
        due("len(' ')", 1);
        fault(2, "len(0)", "len(123)", "len(len(''))", "len(1+1)");
    }

    private static void eq() {
        Check.sentence("eq(a, b): 1 if both are the same number or the same word, else 0");
        due("eq(1,1)", 1);
        due("eq(1,2)", 0);
        due("eq(2,1)", 0);
        due("eq(" + HIGH + "," + HIGH + ")", 1);
        due("eq(" + HIGH + "," + LOW + ")", 0);
        due("eq('','')", 1);
        due("eq('a','a')", 1);
        due("eq('a','A')", 0);
        due("eq(0,'')", 0);
        due("eq('',0)", 0);
        due("eq(1,'1')", 0);
        due("eq('abcdefghijkl','abcdefghijkl')", 1);
        due("eq('abcdefghijkl','abcdefghijk')", 0);
    }

    private static void lt() {
        Check.sentence("lt(a, b): 1 if the first number is less, else 0");
        due("lt(1,2)", 1);
        due("lt(2,2)", 0);
        due("lt(3,2)", 0);
        due("lt(-1,0)", 1);
        due("lt(0,-1)", 0);
        due("lt(" + LOW + "," + HIGH + ")", 1);
        due("lt(" + HIGH + "," + LOW + ")", 0);
        due("lt(999999999999999," + HIGH + ")", 1);
        fault(2, "lt('a','b')", "lt('a',1)", "lt(1,'b')");
    }

    private static void sum() {
        Check.sentence("sum(T, C): all numbers in column C of table T (words count as 0)");
        Desk desk = Desk.of("t a b c", "1;x;7", "-3;5;", "10;;8");
        Check.same("numbers", desk.merged("{sum(t,a)}"), "8");
        Check.same("a number among words", desk.merged("{sum(t,b)}"), "5");
        Check.same("a word among numbers", desk.merged("{sum(t,c)}"), "15");
        Check.same("no records", Desk.of("t a").merged("{sum(t,a)}"), "0");
        Check.same("words alone", Desk.of("t a", "x", "", "12345678901x").merged("{sum(t,a)}"), "0");
        Check.same("not only the record of the loop", desk.merged("{each t}{sum(t,a)} {end}"), "8 8 8 ");
        Check.sentence("of a sum the whole sum");
        String most = "999999999999999";
        Check.same("10^15", Desk.of("t a", most, "1").merged("{sum(t,a)}"), MOST);
        Check.same("10^15 + 1", Desk.of("t a", most, "1", "1").merged("{sum(t,a)}"), "-30000 ");
        Check.same("-10^15", Desk.of("t a", "-" + most, "-1").merged("{sum(t,a)}"), -MOST);
        Check.same("-10^15 - 1", Desk.of("t a", "-" + most, "-2").merged("{sum(t,a)}"), "-30000 ");
        Check.same("beyond it on the way", Desk.of("t a", most, most, "-" + most).merged("{sum(t,a)}"), most);
        Check.same("beyond it on the way down", Desk.of("t a", "-" + most, "-5", "6", "x").merged("{sum(t,a)}"),
                "-999999999999998");
        Check.same("sixteen of the largest", Desk.of("t a", (most + " ").repeat(16).split(" ")).merged("{sum(t,a)}"),
                "-30000 ");
    }

    private static void count() {
        Check.sentence("count(T): how many records");
        Desk desk = Desk.of("t a");
        for (int i = 0; i <= 16; i++) {
            Check.same("count", desk.merged("{count(t)}"), i);
            desk.record(0, "");
        }
        desk.drop(0, 0);
        Check.same("one less", desk.merged("{count(t)}"), 15);
    }

    private static void soManyArguments() {
        Check.sentence("all of these with just so many arguments");
        String[] one = {"abs", "len"};
        String[] two = {"pct", "div", "eq", "lt"};
        for (String name : one) {
            fault(1, name + "(1,1)", name + "('a','a')", name + "(1,1,1)");
        }
        for (String name : two) {
            fault(1, name + "(1)", name + "(1,1,1)", name + "(1,1,1,1,1,1)");
            due(name + "(100,100)", name.equals("pct") ? 100 : name.equals("lt") ? 0 : 1);
        }
        fault(1, "sum(item)", "sum(item,price,price)", "count(item,price)", "count(item,item)");
        due("sum(item,price)", 3144);
        due("count(item)", 3);
        Check.same("with none", new Desk().compile("{count()}"), 8);
    }

    private static void namesAlone() {
        Check.sentence("T and C are names alone");
        fault(1, "count((item))", "count(-item)", "count('item')", "count(0)", "count(item+0)", "count(0+item)",
                "count(item*1)", "count(abs(item))", "count(item(1))");
        fault(1, "sum((item),price)", "sum('item',price)", "sum(0,price)", "sum(item+0,price)",
                "sum(count(item),price)");
        fault(1, "sum(item,(price))", "sum(item,'price')", "sum(item,2)", "sum(item,price+0)", "sum(item,-price)",
                "sum(item,abs(price))");
        Check.same("a name that is a variable too",
                Desk.shop().merged("{let item=0}{let price='x'}{sum(item,price)}{count(item)}"),
                "31443");
        Check.same("a variable that is not a table", Desk.shop().merged("{let a=0}{count(a)}"), "-10009 ");
    }
}
