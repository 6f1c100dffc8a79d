/** Promises 5 and 6: cells that are changed, records that are dropped. */
public final class CellTest {
    private static final String ALL = "{each t}{a},{b} {end}";

    public static void main(String[] args) {
        change();
        wrongCells();
        drop();
        Check.end();
    }

    private static Desk three() {
        Desk desk = new Desk();
        desk.table("t a b");
        desk.record(0, "1;x");
        desk.record(0, "2;y");
        desk.record(0, "3;z");
        return desk;
    }

    private static void change() {
        Desk desk = three();
        Check.same("a number to a word", desk.cell(0, 1, 0, "ab"), "");
        Check.same("a word to a number", desk.cell(0, 2, 1, "-5"), "");
        Check.same("to an empty word", desk.cell(0, 0, 1, ""), "");
        Check.same("all", desk.merged(ALL), "1, ab,y 3,-5 ");
        Check.same("as a number", desk.number(0, 2, 1), -5);
        Check.same("no number any more", desk.number(0, 1, 0), Desk.NONE);
        desk.cell(0, 1, 0, "123456789012345");
        Check.same("fifteen digits", desk.number(0, 1, 0), 123456789012345L);
    }

    private static void wrongCells() {
        Desk desk = three();
        String[] none = {"a;b", ";", "a'", "}", "1234567890123456", "abcdefghijklm", "\t", "\u0080"};
        for (String text : none) {
            Check.same("cell " + text, desk.cell(0, 1, 1, text), Desk.ARGUMENT);
        }
        int[][] nowhere = {{-1, 0, 0}, {1, 0, 0}, {0, -1, 0}, {0, 3, 0}, {0, 0, -1}, {0, 0, 2}};
        for (int[] at : nowhere) {
            Check.same("cell nowhere", desk.cell(at[0], at[1], at[2], "1"), Desk.INDEX);
            Check.same("none, nowhere", desk.cell(at[0], at[1], at[2], ";"), Desk.INDEX);
        }
        Check.same("nothing changed", desk.merged(ALL), "1,x 2,y 3,z ");
    }

    private static void drop() {
        Desk desk = three();
        desk.table("u a");
        desk.record(1, "7");
        int[][] nowhere = {{-1, 0}, {2, 0}, {0, -1}, {0, 3}, {1, 1}, {Integer.MAX_VALUE, 0},
            {0, Integer.MIN_VALUE}};
        for (int[] at : nowhere) {
            Check.same("drop " + at[0] + " " + at[1], desk.drop(at[0], at[1]), Desk.INDEX);
        }
        Check.same("four records", desk.about(1), 4);
        Check.same("the middle one", desk.drop(0, 1), "");
        Check.same("all but it", desk.merged(ALL), "1,x 3,z ");
        Check.same("numbers go down", desk.number(0, 1, 0), 3);
        Check.same("no third one", desk.number(0, 2, 0), Desk.INDEX);
        Check.same("the last", desk.drop(0, 1), "");
        Check.same("the first", desk.drop(0, 0), "");
        Check.same("none left", desk.merged(ALL), "");
        Check.same("none to drop", desk.drop(0, 0), Desk.INDEX);
        Check.same("the other table is whole", desk.number(1, 0, 0), 7);
        Check.same("a new one", desk.record(0, "4;w"), 0);
        Check.same("alone", desk.merged(ALL), "4,w ");
    }
}
