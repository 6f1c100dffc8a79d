/** Promise 3. */
public final class TableTest {
    public static void main(String[] args) {
        noTables();
        limits();
        order();
        Check.end();
    }

    private static void noTables() {
        Desk desk = new Desk();
        String[] none = {
            "", "a", " ", "a ", " a b", "a  b", "a b ", "a b\n", "A b", "a B", "a b1", "a-b c", "a;b",
            "each b", "a each", "end b", "a end", "if b", "a if", "else b", "a else", "let b", "a let",
            "abcdefghi b", "a abcdefghi", "a b b", "a b c d b", "a b c d e f g h", "a \u00e9",
        };
        for (String text : none) {
            Check.same("table " + text, desk.table(text), Desk.ARGUMENT);
        }
        Check.same("nothing changed", desk.about(0), 0);
    }

    private static void limits() {
        Desk desk = new Desk();
        Check.same("eight letters", desk.table("abcdefgh zyxwvuts"), 0);
        Check.same("six columns", desk.table("a b c d e f g"), 1);
        Check.same("a column with the table's name", desk.table("q q"), 2);
        Check.same("a name that is a table's", desk.table("a z"), Desk.ARGUMENT);
        Check.same("the first table's", desk.table("abcdefgh z"), Desk.ARGUMENT);
        Check.same("a reserved word with a letter more", desk.table("ends iff"), 3);
        Check.same("four", desk.about(0), 4);
    }

    private static void order() {
        Desk desk = new Desk();
        String[] four = {"a x", "b x", "c x", "d x"};
        for (int i = 0; i < 4; i++) {
            Check.same("table " + i, desk.table(four[i]), i);
        }
        Check.same("a fifth", desk.table("e x"), Desk.UNSUPPORTED);
        Check.same("a fifth that is none", desk.table("e"), Desk.ARGUMENT);
        Check.same("a fifth whose name is taken", desk.table("d y"), Desk.ARGUMENT);
        Check.same("four still", desk.about(0), 4);
        Check.same("the last is as it was", desk.merged("{count(d)}{sum(d,x)}"), "00");
    }
}
