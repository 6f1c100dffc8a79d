import java.util.function.Function;

/** THE TEXT and promise 2: each of their sentences, just within it and just beyond it. */
public final class TextBoundsTest {
    private static final long SMALL = 0x6867666564636261L;
    private static final long LARGE = 0x4847464544434241L;

    public static void main(String[] args) {
        lowestBytes();
        anyByte();
        countOfBytes();
        sixHundred();
        emptiedByAnAnswer();
        emptiedByAThrow();
        leftByOtherCalls();
        Check.end();
    }

    private static void lowestBytes() {
        Check.sentence("The n lowest bytes of w come behind the text, the lowest first");
        for (int n = 1; n <= 8; n++) {
            Desk desk = new Desk();
            Check.same("type " + n, desk.type(SMALL, n), true);
            Check.same("type " + n + " behind them", desk.type(LARGE, n), true);
            Check.same("both", desk.merged(""), "abcdefgh".substring(0, n) + "ABCDEFGH".substring(0, n));
        }
    }

    private static void anyByte() {
        Check.sentence("THE TEXT is a row of bytes");
        Desk desk = new Desk();
        desk.type(-1L, 8);
        desk.type(Long.MIN_VALUE, 8);
        desk.type(0x7F80, 2);
        Check.same("0, 127, 128 and 255", desk.merged(""),
                "\u00ff".repeat(8) + "\0".repeat(7) + "\u0080\u0080\u007f");
    }

    private static void countOfBytes() {
        Check.sentence("False, changing nothing, when n is not 1 .. 8");
        int[] beyond = {0, 9, -1, -8, 10, 16, 257, 264, Integer.MAX_VALUE, Integer.MIN_VALUE};
        for (int n : beyond) {
            Desk desk = new Desk();
            Check.same("to an empty text, type " + n, desk.type(SMALL, n), false);
            Check.same("which stays empty", desk.merged(""), "");
            Check.same("type 1", desk.type(SMALL, 1), true);
            Check.same("type " + n, desk.type(SMALL, n), false);
            Check.same("type 8", desk.type(LARGE, 8), true);
            Check.same("type " + n, desk.type(SMALL, n), false);
            Check.same("as if it had not been", desk.merged(""), "aABCDEFGH");
        }
    }

    private static void sixHundred() {
        Check.sentence("or there would be more than 600");
        for (int n = 1; n <= 8; n++) {
            Desk desk = new Desk().write("x".repeat(600 - n));
            Check.same("600 with the last " + n, desk.type(SMALL, n), true);
            Check.same("601", desk.type(SMALL, 1), false);
            Check.same("608", desk.type(SMALL, 8), false);
            Check.same("the text has above 500", desk.compile(""), 501);
            desk = new Desk().write("{?" + "x".repeat(599 - n));
            Check.same("601 with the last " + n, desk.type(SMALL, n), false);
            if (n > 1) {
                Check.same("one less is 600", desk.type(SMALL, n - 1), true);
                Check.same("601 again", desk.type(SMALL, 1), false);
            }
            Check.same("what was typed first is there", desk.compile(""), 2);
            desk.write("x".repeat(600));
            Check.same("600 again, and 601", desk.type(SMALL, 1), false);
        }
    }

    /** Makes a call with a text on a desk, and looks whether the text is empty behind it. */
    private static void emptied(String what, Desk desk, Function<Desk, String> call, Object want) {
        Check.same(what, call.apply(desk), want);
        Check.same("the text behind " + what, desk.merged("q"), "q");
    }

    private static void emptiedByAnAnswer() {
        Check.sentence("a call that takes it empties it, whatever it answers");
        emptied("table", new Desk(), d -> d.table("t a"), 0);
        emptied("record", Desk.of("t a"), d -> d.record(0, "5"), 0);
        emptied("cell", Desk.of("t a", "5"), d -> d.cell(0, 0, 0, "6"), "");
        emptied("compile", new Desk(), d -> d.compile("xyz"), 0);
        emptied("compile with a wrong place", new Desk(), d -> d.compile("x{"), 3);
        emptied("compile of 500 bytes", new Desk(), d -> d.compile("x".repeat(500)), 0);
        emptied("compile of 600 bytes", new Desk(), d -> d.compile("x".repeat(600)), 501);
        Desk desk = new Desk();
        desk.merged("{let v=8}");
        emptied("variable", desk, d -> d.variable("v"), 8);
    }

    private static void emptiedByAThrow() {
        Check.sentence("a call that takes it empties it, whatever it .. throws");
        emptied("no table", new Desk(), d -> d.table("t"), Desk.ARGUMENT);
        emptied("a table's name", Desk.of("t a"), d -> d.table("t b"), Desk.ARGUMENT);
        emptied("a fifth table", Desk.of("t a").with("u a").with("v a").with("w a"), d -> d.table("x a"),
                Desk.UNSUPPORTED);
        emptied("record of no table", new Desk(), d -> d.record(0, "5"), Desk.INDEX);
        emptied("no record", Desk.of("t a"), d -> d.record(0, "5;"), Desk.ARGUMENT);
        emptied("a seventeenth record", Desk.of("t a", "1 2 3 4 5 6 7 8 9 10 11 12 13 14 15 16".split(" ")),
                d -> d.record(0, "5"), Desk.UNSUPPORTED);
        emptied("cell of no record", Desk.of("t a"), d -> d.cell(0, 0, 0, "5"), Desk.INDEX);
        emptied("no cell", Desk.of("t a", "5"), d -> d.cell(0, 0, 0, "5;"), Desk.ARGUMENT);
        emptied("no variable", new Desk(), d -> d.variable("v"), Desk.NONE);
        Desk desk = new Desk();
        desk.merged("{let v='w'}");
        emptied("a variable that is a word", desk, d -> d.variable("v"), Desk.NONE);
    }

    private static void leftByOtherCalls() {
        Check.sentence("a call that takes it (others do not take it)");
        Desk desk = Desk.of("t a", "5", "x");
        desk.compile("ok");
        desk.write("ab");
        Check.same("merge", desk.merge(), 2);
        Check.same("size", desk.size(), 2);
        Check.same("out", desk.out(1), (int) 'k');
        Check.same("out of nothing", desk.out(2), Desk.INDEX);
        Check.same("about", desk.about(1), 2);
        Check.same("about nothing", desk.about(5), Desk.INDEX);
        Check.same("number", desk.number(0, 0, 0), 5);
        Check.same("number of a word", desk.number(0, 1, 0), Desk.NONE);
        Check.same("number of nothing", desk.number(0, 2, 0), Desk.INDEX);
        Check.same("drop", desk.drop(0, 0), "");
        Check.same("drop of nothing", desk.drop(0, 1), Desk.INDEX);
        Check.same("type of nothing", desk.type(SMALL, 0), false);
        Check.same("the text", desk.merged("cd"), "abcd");
        desk = new Desk().write("ab");
        Check.same("merge without a template", desk.merge(), Desk.STATE);
        Check.same("the text", desk.merged("cd"), "abcd");
    }
}
