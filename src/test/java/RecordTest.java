/** Promises 4 and 13: records, and the numbers in their cells. */
public final class RecordTest {
    public static void main(String[] args) {
        cells();
        wrongTexts();
        limits();
        numbers();
        Check.end();
    }

    private static void cells() {
        Desk desk = new Desk();
        desk.table("t a b c");
        Check.same("numbers", desk.record(0, "1;-2;007"), 0);
        Check.same("fifteen digits", desk.record(0, "999999999999999;-999999999999999;-0"), 1);
        Check.same("empty words", desk.record(0, ";;"), 2);
        Check.same("words", desk.record(0, "-;--1;+1"), 3);
        Check.same("twelve bytes", desk.record(0, "abcdefghijkl; ~!{\"#$%&()*;1.5"), 4);
        Check.same("all of them", desk.merged("{each t}{a}|{b}|{c}\n{end}"),
                "1|-2|7\n999999999999999|-999999999999999|0\n||\n-|--1|+1\n"
                + "abcdefghijkl| ~!{\"#$%&()*|1.5\n");
    }

    private static void wrongTexts() {
        Desk desk = new Desk();
        desk.table("t a b");
        desk.table("u a");
        String[] none = {
            "", "1", "1;2;", "1;2;3", ";1;", "abcdefghijklm;1", "1;abcdefghijklm", "1234567890123456;1",
            "-1234567890123456;1", "1;1234567890123456", "a'b;1", "a}b;1", "1;a\u007f", "1;a\u001f",
            "1;\u00e9", "1;\n",
        };
        for (String text : none) {
            Check.same("record " + text, desk.record(0, text), Desk.ARGUMENT);
        }
        Check.same("two cells for one column", desk.record(1, ";"), Desk.ARGUMENT);
        Check.same("nothing changed", desk.about(1), 0);
        Check.same("one column, an empty word", desk.record(1, ""), 0);
    }

    private static void limits() {
        Desk desk = new Desk();
        desk.table("t a");
        for (int i = 0; i < 16; i++) {
            Check.same("record " + i, desk.record(0, String.valueOf(i)), i);
        }
        Check.same("a seventeenth", desk.record(0, "1"), Desk.UNSUPPORTED);
        Check.same("a seventeenth that is none", desk.record(0, "1;1"), Desk.ARGUMENT);
        int[] tables = {-1, 1, 4, Integer.MAX_VALUE, Integer.MIN_VALUE};
        for (int table : tables) {
            Check.same("record of table " + table, desk.record(table, "1"), Desk.INDEX);
            Check.same("none of table " + table, desk.record(table, "1;1"), Desk.INDEX);
        }
        Check.same("16 still", desk.about(1), 16);
        Check.same("their sum", desk.merged("{sum(t,a)}"), "120");
        desk.drop(0, 15);
        Check.same("room again", desk.record(0, "1"), 15);
    }

    private static void numbers() {
        Desk desk = new Desk();
        desk.table("t a b");
        desk.record(0, "-999999999999999;x");
        desk.record(0, "000000000000012;");
        Check.same("number", desk.number(0, 0, 0), -999999999999999L);
        Check.same("noughts before it", desk.number(0, 1, 0), 12);
        Check.same("a word", desk.number(0, 0, 1), Desk.NONE);
        Check.same("an empty word", desk.number(0, 1, 1), Desk.NONE);
        int[][] nowhere = {{-1, 0, 0}, {1, 0, 0}, {0, -1, 0}, {0, 2, 0}, {0, 0, -1}, {0, 0, 2},
            {Integer.MAX_VALUE, 0, 0}, {0, Integer.MAX_VALUE, 0}, {0, 0, Integer.MIN_VALUE}};
        for (int[] at : nowhere) {
            Check.same("number " + at[0] + " " + at[1] + " " + at[2],
                    desk.number(at[0], at[1], at[2]), Desk.INDEX);
        }
    }
}
