/** TABLES and RECORDS, and promises 3, 4, 5, 6 and 13. */
public final class TableBoundsTest {
    private static final String[] SIXTEEN = "0 1 2 3 4 5 6 7 8 9 10 11 12 13 14 15".split(" ");
    private static final int[] FAR = {Integer.MAX_VALUE, Integer.MIN_VALUE, 1 << 16, 1 << 28};

    public static void main(String[] args) {
        fourTables();
        ownNames();
        oneToSixColumns();
        differentColumns();
        oneSpace();
        sixteenRecords();
        oneCellForEachColumn();
        tableThrows();
        recordThrows();
        cellThrows();
        drop();
        dropAll();
        dropThrows();
        numberThrows();
        Check.end();
    }

    private static Desk two() {
        return Desk.of("t a b", "1;2", "3;4", "x;").with("u c d e", "5;6;7");
    }

    private static void fourTables() {
        Check.sentence("TABLES have numbers 0, 1, .. (4 at most)");
        Desk desk = new Desk();
        for (int i = 0; i < 4; i++) {
            Check.same("tables so far", desk.about(0), i);
            Check.same("record of the next", desk.record(i, "1"), Desk.INDEX);
            Check.same("table " + i, desk.table("t" + "x".repeat(i) + " a"), i);
            Check.same("record of it", desk.record(i, "1"), 0);
        }
        Check.same("a fifth", desk.table("u a"), Desk.UNSUPPORTED);
        Check.same("tables", desk.about(0), 4);
        Check.same("record of a fifth", desk.record(4, "1"), Desk.INDEX);
        Check.same("the fifth is nowhere", desk.merged("{count(u)}"), "-10000 ");
    }

    private static void ownNames() {
        Check.sentence("each a name of its own");
        Desk desk = Desk.of("t a").with("abcdefgh a");
        Check.same("the first one's", desk.table("t a"), Desk.ARGUMENT);
        Check.same("the first one's, other columns", desk.table("t b c"), Desk.ARGUMENT);
        Check.same("the last one's", desk.table("abcdefgh b"), Desk.ARGUMENT);
        Check.same("two tables", desk.about(0), 2);
        Check.same("a longer name", desk.table("tt a"), 2);
        Check.same("a column's name", desk.table("a t"), 3);
    }

    private static void oneToSixColumns() {
        Check.sentence("1 to 6 COLUMNS");
        String[] names = {"", " a", " a b", " a b c", " a b c d", " a b c d e", " a b c d e f", " a b c d e f g",
            " a b c d e f g h"};
        for (int columns = 0; columns < names.length; columns++) {
            boolean fits = columns >= 1 && columns <= 6;
            Desk desk = new Desk();
            Check.same(columns + " columns", desk.table("t" + names[columns]), fits ? 0 : Desk.ARGUMENT);
            Check.same("tables", desk.about(0), fits ? 1 : 0);
            if (fits) {
                desk.record(0, "7" + ";7".repeat(columns - 1));
                Check.same("the last column", desk.number(0, 0, columns - 1), 7);
                Check.same("one more", desk.number(0, 0, columns), Desk.INDEX);
            }
        }
    }

    private static void differentColumns() {
        Check.sentence("with different names");
        for (int first = 0; first < 6; first++) {
            for (int second = first + 1; second < 6; second++) {
                String[] names = {"a", "b", "c", "d", "e", "f"};
                names[second] = names[first];
                String heading = "t " + String.join(" ", names);
                Check.same(heading, new Desk().table(heading), Desk.ARGUMENT);
            }
        }
        Check.same("twice among two", new Desk().table("t a a"), Desk.ARGUMENT);
        Check.same("twice among eight letters", new Desk().table("t abcdefgh abcdefgh"), Desk.ARGUMENT);
        Check.same("in the last letter", new Desk().table("t abcdefgh abcdefgi abcdefg"), 0);
        Check.same("a column with the table's name", new Desk().table("t t"), 0);
        Check.same("another table's columns", Desk.of("t a b").table("u a b"), 1);
    }

    private static void oneSpace() {
        Check.sentence("its name and those of its columns, with one space (32) between");
        String[] none = {"", " ", "  ", "t ", " t", " t a", "t  a", "t a ", "t a  b", "t a b ", "  t a"};
        for (String text : none) {
            Check.same("table " + text, new Desk().table(text), Desk.ARGUMENT);
        }
        for (int b = 0; b <= 255; b++) {
            String heading = "t" + (char) b + "a";
            Check.same("byte " + b + " between", new Desk().table(heading), b == 32 ? 0 : Desk.ARGUMENT);
        }
        Check.same("62 bytes, the most",
                new Desk().table("tttttttt aaaaaaaa bbbbbbbb cccccccc dddddddd eeeeeeee ffffffff"), 0);
    }

    private static void sixteenRecords() {
        Check.sentence("RECORDS 0, 1, .. (16 at most)");
        Desk desk = Desk.of("t a").with("u a");
        for (int i = 0; i < 16; i++) {
            Check.same("number of the next", desk.number(1, i, 0), Desk.INDEX);
            Check.same("record " + i, desk.record(1, String.valueOf(i)), i);
            Check.same("its number", desk.number(1, i, 0), i);
        }
        Check.same("a seventeenth", desk.record(1, "16"), Desk.UNSUPPORTED);
        Check.same("number of a seventeenth", desk.number(1, 16, 0), Desk.INDEX);
        Check.same("all sixteen", desk.merged("{count(u)},{sum(u,a)}"), "16,120");
        Check.same("another table has room", desk.record(0, "5"), 0);
        desk = Desk.of("t a", SIXTEEN).with("u a", SIXTEEN).with("v a", SIXTEEN).with("w a", SIXTEEN);
        Check.same("sixteen in each of four", desk.about(1), 64);
    }

    private static void oneCellForEachColumn() {
        Check.sentence("cells with one ; between, one for each column");
        String[] names = {" a", " a b", " a b c", " a b c d", " a b c d e", " a b c d e f"};
        for (int columns = 1; columns <= 6; columns++) {
            Desk desk = Desk.of("t" + names[columns - 1]);
            for (int cells = 1; cells <= 8; cells++) {
                boolean fits = cells == columns;
                String full = "7" + ";7".repeat(cells - 1);
                String empty = ";".repeat(cells - 1);
                String what = cells + " cells for " + columns;
                Check.same(what, desk.record(0, full), fits ? 0 : Desk.ARGUMENT);
                Check.same(what + ", empty", desk.record(0, empty), fits ? 1 : Desk.ARGUMENT);
            }
            Check.same("one record of each kind", desk.about(1), 2);
            Check.same("the last number", desk.number(0, 0, columns - 1), 7);
            Check.same("the last empty word", desk.number(0, 1, columns - 1), Desk.NONE);
        }
        Desk desk = Desk.of("t a b c d e f");
        String longest = "-123456789012345";
        Check.same("101 bytes, the most", desk.record(0, longest + (";" + longest).repeat(5)), 0);
        Check.same("no space about ;", Desk.of("t a b", "1 ; 2").number(0, 0, 0), Desk.NONE);
    }

    private static void tableThrows() {
        Check.sentence("IllegalArgumentException when it is none, or its name is a table's already; "
                + "UnsupportedOperationException when there are 4");
        Desk desk = Desk.of("t a").with("u a").with("v a");
        Check.same("none, of three", desk.table("w"), Desk.ARGUMENT);
        Check.same("a table's, of three", desk.table("v a"), Desk.ARGUMENT);
        desk.with("w a");
        Check.same("of four", desk.table("x a"), Desk.UNSUPPORTED);
        Check.same("none, of four", desk.table("x"), Desk.ARGUMENT);
        Check.same("a table's, of four", desk.table("w b"), Desk.ARGUMENT);
        Check.same("an empty text, of four", desk.table(""), Desk.ARGUMENT);
        Check.same("four", desk.about(0), 4);
        Check.same("as they were", desk.merged("{each w}{end}{sum(w,a)}{sum(w,b)}"), "-10023 0");
    }

    private static void recordThrows() {
        Check.sentence("IndexOutOfBoundsException when there is no such table; "
                + "IllegalArgumentException when it is none; UnsupportedOperationException when it has 16");
        Desk desk = Desk.of("t a", SIXTEEN).with("u a b");
        Check.same("no table -1", desk.record(-1, "1"), Desk.INDEX);
        Check.same("no table 2", desk.record(2, "1"), Desk.INDEX);
        Check.same("no table 2, no record", desk.record(2, "}"), Desk.INDEX);
        for (int far : FAR) {
            Check.same("no table " + far, desk.record(far, "1"), Desk.INDEX);
        }
        Check.same("of 16", desk.record(0, "1"), Desk.UNSUPPORTED);
        Check.same("none, of 16", desk.record(0, "}"), Desk.ARGUMENT);
        Check.same("two cells, of 16", desk.record(0, "1;2"), Desk.ARGUMENT);
        Check.same("none", desk.record(1, "1"), Desk.ARGUMENT);
        Check.same("16 still", desk.about(1), 16);
        Check.same("their sum", desk.merged("{sum(t,a)}"), "120");
        desk.drop(0, 3);
        Check.same("of 15", desk.record(0, "1"), 15);
        Check.same("of 16 again", desk.record(0, "1"), Desk.UNSUPPORTED);
    }

    private static final int[][] NOWHERE = {{-1, 0, 0}, {2, 0, 0}, {4, 0, 0}, {0, -1, 0}, {0, 3, 0}, {1, 1, 0},
        {0, 0, -1}, {0, 0, 2}, {1, 0, 3}, {0, 3, 2}, {-1, -1, -1}};

    private static void cellThrows() {
        Check.sentence("IndexOutOfBoundsException when there is no such table, record or column; "
                + "IllegalArgumentException when it is none");
        Desk desk = two();
        for (int[] at : NOWHERE) {
            String where = at[0] + " " + at[1] + " " + at[2];
            Check.same("cell " + where, desk.cell(at[0], at[1], at[2], "9"), Desk.INDEX);
            Check.same("no cell, " + where, desk.cell(at[0], at[1], at[2], ";"), Desk.INDEX);
        }
        for (int far : FAR) {
            Check.same("table " + far, desk.cell(far, 0, 0, "9"), Desk.INDEX);
            Check.same("record " + far, desk.cell(0, far, 0, "9"), Desk.INDEX);
            Check.same("column " + far, desk.cell(0, 0, far, "9"), Desk.INDEX);
        }
        Check.same("none", desk.cell(0, 0, 0, ";"), Desk.ARGUMENT);
        Check.same("none in the last", desk.cell(1, 0, 2, "a;b"), Desk.ARGUMENT);
        Check.same("all as before", desk.merged("{each t}{a},{b};{end}{each u}{c},{d},{e};{end}"),
                "1,2;3,4;x,;5,6,7;");
        Check.sentence("The text is taken as a cell, and is that of a record's column instead of what it had");
        Check.same("the first", desk.cell(0, 0, 0, "9"), "");
        Check.same("the last", desk.cell(1, 0, 2, ""), "");
        Check.same("of the last record", desk.cell(0, 2, 1, "8"), "");
        Check.same("all others as before", desk.merged("{each t}{a},{b};{end}{each u}{c},{d},{e};{end}"),
                "9,2;3,4;x,8;5,6,;");
    }

    private static void drop() {
        Check.sentence("A record is gone; those behind it have one less as their numbers");
        for (int dropped = 0; dropped < 4; dropped++) {
            Desk desk = Desk.of("t a b", "0;p", "1;q", "2;r", "3;s").with("u a", "7", "8");
            Check.same("drop " + dropped, desk.drop(0, dropped), "");
            for (int i = 0; i < 3; i++) {
                Check.same("number " + i, desk.number(0, i, 0), i < dropped ? i : i + 1);
            }
            Check.same("the last number is gone", desk.number(0, 3, 0), Desk.INDEX);
            Check.same("words went along", desk.merged("{each t}{a}{b}{end}{count(t)}"),
                    "0p1q2r3s".replace(dropped + "pqrs".substring(dropped, dropped + 1), "") + "3");
            Check.same("the other table's are all there", desk.about(1), 5);
            Check.same("the next has the free number", desk.record(0, "4;t"), 3);
            Check.same("its cell", desk.number(0, 3, 0), 4);
        }
    }

    private static void dropAll() {
        Check.sentence("A record is gone (from a full table, up to the last one)");
        Desk desk = Desk.of("t a", SIXTEEN);
        for (int i = 0; i < 16; i++) {
            Check.same("the first is", desk.number(0, 0, 0), i);
            Check.same("drop the first", desk.drop(0, 0), "");
            Check.same("left", desk.about(1), 15 - i);
        }
        Check.same("none is left to drop", desk.drop(0, 0), Desk.INDEX);
        desk = Desk.of("t a", SIXTEEN);
        for (int i = 15; i >= 0; i--) {
            Check.same("drop the last", desk.drop(0, i), "");
            Check.same("not twice", desk.drop(0, i), Desk.INDEX);
        }
        Check.same("the table is there", desk.merged("{count(t)}{sum(t,a)}{each t}x{end}"), "00");
        Check.same("a new first record", desk.record(0, "x"), 0);
    }

    private static void dropThrows() {
        Check.sentence("IndexOutOfBoundsException when there is no such table or record");
        Desk desk = two().with("empty x");
        int[][] nowhere = {{-1, 0}, {3, 0}, {4, 0}, {0, -1}, {0, 3}, {1, 1}, {2, 0}, {-1, -1}};
        for (int[] at : nowhere) {
            Check.same("drop " + at[0] + " " + at[1], desk.drop(at[0], at[1]), Desk.INDEX);
        }
        for (int far : FAR) {
            Check.same("table " + far, desk.drop(far, 0), Desk.INDEX);
            Check.same("record " + far, desk.drop(0, far), Desk.INDEX);
        }
        Check.same("all as before", desk.merged("{each t}{a},{b};{end}{each u}{c},{d},{e};{end}"),
                "1,2;3,4;x,;5,6,7;");
        Check.same("the last of three", desk.drop(0, 2), "");
    }

    private static void numberThrows() {
        Check.sentence("its value; NoSuchElementException when it is a word; "
                + "IndexOutOfBoundsException when there is no such table, record or column");
        Desk desk = two();
        for (int[] at : NOWHERE) {
            Check.same("number " + at[0] + " " + at[1] + " " + at[2], desk.number(at[0], at[1], at[2]), Desk.INDEX);
        }
        for (int far : FAR) {
            Check.same("table " + far, desk.number(far, 0, 0), Desk.INDEX);
            Check.same("record " + far, desk.number(0, far, 0), Desk.INDEX);
            Check.same("column " + far, desk.number(0, 0, far), Desk.INDEX);
        }
        Check.same("a word", desk.number(0, 2, 0), Desk.NONE);
        Check.same("an empty word", desk.number(0, 2, 1), Desk.NONE);
        Check.same("the first", desk.number(0, 0, 0), 1);
        Check.same("the last", desk.number(1, 0, 2), 7);
        Check.same("the largest", Desk.of("t a", "999999999999999").number(0, 0, 0), 999999999999999L);
        Check.same("the least", Desk.of("t a", "-999999999999999").number(0, 0, 0), -999999999999999L);
    }
}
