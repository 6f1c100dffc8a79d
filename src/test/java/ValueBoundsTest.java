/** A VALUE: numbers and words, as cells, in quotes, and as what comes of sums. */
public final class ValueBoundsTest {
    private static final String TWELVE = "abcdefghijkl";

    public static void main(String[] args) {
        numbers();
        wordBytes();
        wordLengths();
        cellDigits();
        otherCells();
        sameAndTrue();
        Check.end();
    }

    private static void numbers() {
        Check.sentence("a NUMBER, a long from -10^15 to 10^15");
        Desk desk = new Desk();
        Check.same("10^15", desk.merged("{let a=999999999999999+1}{let b=-a}{a} {b}"),
                "1000000000000000 -1000000000000000");
        Check.same("as a long", desk.variable("a"), 1000000000000000L);
        Check.same("below 0", desk.variable("b"), -1000000000000000L);
        Check.same("1 above", desk.merged("{let a=999999999999999+2}"), "-30000 ");
        Check.same("1 below", desk.merged("{let a=-999999999999999-2}"), "-30000 ");
        Check.same("10^15 + 1", desk.merged("{let a=999999999999999+1}{a+1}"), "-30025 ");
        Check.same("10^15 - 1", desk.merged("{let a=999999999999999+1}{a-1}"), "999999999999999");
    }

    private static void wordBytes() {
        Check.sentence("bytes 32 .. 126 without 59 (;), 39 and 125");
        for (int b = 0; b <= 255; b++) {
            char c = (char) b;
            boolean fits = b >= 32 && b <= 126 && b != 59 && b != 39 && b != 125;
            String[] words = {"w" + c, c + "w", TWELVE.substring(1) + c};
            for (String word : words) {
                Desk desk = Desk.of("t a", "0");
                Check.same("record with byte " + b, desk.record(0, word), fits ? 1 : Desk.ARGUMENT);
                Check.same("cell with byte " + b, desk.cell(0, 0, 0, word), fits ? "" : Desk.ARGUMENT);
                Check.same("the cells", desk.merged("{each t}{a}|{end}"), fits ? word + "|" + word + "|" : "0|");
            }
            if (b != 39) {
                Check.same("byte " + b + " in quotes", new Desk().merged("{'w" + c + "'}"),
                        fits ? "w" + c : "compile 2");
                Check.same("byte " + b + " first in quotes", new Desk().compile("{1+'" + c + "'"), fits ? 7 : 4);
            }
        }
    }

    private static void wordLengths() {
        Check.sentence("a WORD, at most 12 bytes");
        for (int length = 0; length <= 14; length++) {
            boolean fits = length <= 12;
            String word = "abcdefghijklmn".substring(0, length);
            Desk desk = Desk.of("t a b", "1;2");
            Check.same("record with " + length, desk.record(0, word + ";" + word), fits ? 1 : Desk.ARGUMENT);
            Check.same("record with " + length + " first", desk.record(0, word + ";1"), fits ? 2 : Desk.ARGUMENT);
            Check.same("record with " + length + " last", desk.record(0, "1;" + word), fits ? 3 : Desk.ARGUMENT);
            Check.same("cell with " + length, desk.cell(0, 0, 1, word), fits ? "" : Desk.ARGUMENT);
            Check.same("the cells", desk.merged("{each t}{a},{b};{end}"),
                    fits ? "1," + word + ";" + word + "," + word + ";" + word + ",1;1," + word + ";" : "1,2;");
            Check.same("in quotes", new Desk().merged("{'" + word + "'}"), fits ? word : "compile 2");
            if (fits) {
                Check.same("len", new Desk().merged("{len('" + word + "')}"), length);
            }
        }
    }

    private static void cellDigits() {
        Check.sentence("a cell that is 1 to 15 digits, or - and these, is a number");
        String digits = "9876543210987654";
        for (int length = 1; length <= 16; length++) {
            String number = digits.substring(0, length);
            boolean fits = length <= 15;
            Desk desk = Desk.of("t a b", "x;y");
            Check.same(number, desk.record(0, number + ";-" + number), fits ? 1 : Desk.ARGUMENT);
            Check.same("its number", desk.number(0, 1, 0), fits ? number : Desk.INDEX);
            Check.same("the one below 0", desk.number(0, 1, 1), fits ? "-" + number : Desk.INDEX);
            Check.same("cell " + number, desk.cell(0, 0, 0, number), fits ? "" : Desk.ARGUMENT);
            Check.same("cell -" + number, desk.cell(0, 0, 1, "-" + number), fits ? "" : Desk.ARGUMENT);
            Check.same("its number", desk.number(0, 0, 0), fits ? number : Desk.NONE);
            Check.same("the one below 0", desk.number(0, 0, 1), fits ? "-" + number : Desk.NONE);
        }
        Desk desk = Desk.of("t a b", "000000000000007;-000000000000007", "0;-0", "00;-00");
        Check.same("noughts before it", desk.number(0, 0, 0), 7);
        Check.same("noughts behind -", desk.number(0, 0, 1), -7);
        Check.same("0", desk.number(0, 1, 0), 0);
        Check.same("-0", desk.number(0, 1, 1), 0);
        Check.same("they print as numbers", desk.merged("{each t}{a},{b};{end}"), "7,-7;0,0;0,0;");
        Check.same("sixteen noughts", desk.record(0, "0000000000000000;1"), Desk.ARGUMENT);
    }

    private static void otherCells() {
        Check.sentence("any other is a word (which may be empty)");
        String[] words = {"", "-", "--1", "-1-", "1-", "1 ", " 1", "- 1", "+1", "1.5", "1,5", "1a", "a1", "0x10", "1:2",
            "12345678901a", "-1234567890a", "1/2", "/", ":", "-/", "-:"};
        for (String word : words) {
            Desk desk = Desk.of("t a", "1");
            Check.same("record " + word, desk.record(0, word), 1);
            Check.same("number of " + word, desk.number(0, 1, 0), Desk.NONE);
            Check.same("cell " + word, desk.cell(0, 0, 0, word), "");
            Check.same("number of " + word, desk.number(0, 0, 0), Desk.NONE);
            Check.same("as words", desk.merged("{each t}{a}|{len(a)}|{end}"),
                    (word + "|" + word.length() + "|").repeat(2));
        }
        Desk desk = Desk.of("t a", "1");
        String[] none = {"1234567890123a", "-1234567890123-", "1234567890123456", "-1234567890123456"};
        for (String text : none) {
            Check.same("record " + text, desk.record(0, text), Desk.ARGUMENT);
            Check.same("cell " + text, desk.cell(0, 0, 0, text), Desk.ARGUMENT);
        }
        Check.same("the cell is as it was", desk.number(0, 0, 0), 1);
    }

    private static void sameAndTrue() {
        Check.sentence("the same number or the same word");
        String[][] others = {{"1", "'1'"}, {"0", "''"}, {"-1", "'-1'"}, {"'a'", "'b'"}, {"'a'", "'a '"}, {"''", "' '"},
            {"'abcdefgh'", "'abcdefghi'"}, {"'abcdefghijkl'", "'abcdefghijkm'"}, {"'abcdefghijkl'", "'abcdefghijk'"},
            {"'abcdefgh'", "'bbcdefgh'"}, {"'A'", "'a'"}, {"1", "-1"}, {"999999999999999", "999999999999998"},
            {"97", "'a'"}};
        for (String[] pair : others) {
            String both = pair[0] + "," + pair[1];
            String turned = pair[1] + "," + pair[0];
            Check.same("eq of " + both, new Desk().merged("{eq(" + both + ")}{eq(" + turned + ")}"), "00");
            String twice = pair[0] + "," + pair[0];
            Check.same("eq of " + twice, new Desk().merged("{eq(" + twice + ")}"), "1");
        }
        Check.same("noughts before a number", new Desk().merged("{eq(007,7)}{eq(-0,0)}{eq('007','7')}"), "110");
    }
}
