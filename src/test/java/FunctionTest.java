/** Promise 8: the functions. */
public final class FunctionTest {
    public static void main(String[] args) {
        pct();
        div();
        others();
        tables();
        Check.end();
    }

    private static void due(String expr, String want) {
        Check.same(expr, Desk.shop().merged("{" + expr + "}"), want);
    }

    private static void pct() {
        due("pct(200,19)", "38");
        due("pct(149,1)", "1");
        due("pct(150,1)", "2");
        due("pct(151,1)", "2");
        due("pct(50,1)", "0");
        due("pct(51,1)", "1");
        due("pct(250,1)", "2");
        due("pct(251,1)", "3");
        due("pct(-50,1)", "0");
        due("pct(-51,1)", "-1");
        due("pct(-150,1)", "-2");
        due("pct(250,-1)", "-2");
        due("pct(-350,-1)", "4");
        due("pct(0,999999999999999)", "0");
        due("pct(999999999999999,0)", "0");
        due("pct(999999999999999+1,100)", "1000000000000000");
        due("pct(100,-999999999999999-1)", "-1000000000000000");
        due("pct(999999999999999+1,101)", "-30000 ");
        due("pct(101,-999999999999999-1)", "-30000 ");
        due("pct(999999999999999,999999999999999)", "-30000 ");
        due("pct(21993833369,4546729)", "-30000 ");
        due("pct(-21993833369,4546729)", "-30000 ");
    }

    private static void div() {
        due("div(7,2)", "3");
        due("div(-7,2)", "-3");
        due("div(7,-2)", "-3");
        due("div(-7,-2)", "3");
        due("div(1,2)", "0");
        due("div(0,5)", "0");
        due("div(5,0)", "-30000 ");
        due("div(999999999999999+1,-1)", "-1000000000000000");
    }

    private static void others() {
        due("min(3)", "3");
        due("min(3,-2,5)", "-2");
        due("min(1,2,3,4,5,6,7,8,0)", "0");
        due("max(3)", "3");
        due("max(-3,-2,-5)", "-2");
        due("max(min(5,9),min(7,6),2)", "6");
        due("abs(-7)", "7");
        due("abs(7)", "7");
        due("abs(-999999999999999-1)", "1000000000000000");
        due("len('')", "0");
        due("len('abcdefghijkl')", "12");
        due("eq(1,1)", "1");
        due("eq(1,2)", "0");
        due("eq('a','a')", "1");
        due("eq('a','b')", "0");
        due("eq('a','ab')", "0");
        due("eq('','')", "1");
        due("eq('abcdefghi','abcdefghj')", "0");
        due("eq('abcdefghijkl','abcdefghijkl')", "1");
        due("eq(1,'1')", "0");
        due("eq('',0)", "0");
        due("eq(0-1,-1)", "1");
        due("lt(1,2)", "1");
        due("lt(2,2)", "0");
        due("lt(3,2)", "0");
        due("lt(-1,0)", "1");
    }

    private static void tables() {
        due("sum(item,price)", "3144");
        due("sum(item,name)", "0");
        due("sum(empty,x)", "0");
        due("count(item)", "3");
        due("count(empty)", "0");
        due("count(item)*sum(line,qty)+1", "70");
        Check.same("sum within a loop", Desk.shop().merged("{each item}{sum(line,no)}{end}"), "141414");
        Desk desk = new Desk();
        desk.table("t a");
        desk.record(0, "999999999999999");
        desk.record(0, "999999999999999");
        Check.same("too large a sum", desk.merged("{sum(t,a)}"), "-30000 ");
        desk.record(0, "-999999999999999");
        Check.same("the whole sum counts", desk.merged("{sum(t,a)}"), "999999999999999");
        desk.cell(0, 0, 0, "1");
        desk.cell(0, 2, 0, "word");
        Check.same("just 10^15", desk.merged("{sum(t,a)}"), "1000000000000000");
    }
}
