import java.util.function.Function;

/** A NAME, in each of the places where one may stand. */
public final class NameBoundsTest {
    private static final String[] WORDS = {"each", "end", "if", "else", "let"};

    /** A place where a name may stand: what answers there, for a name and for what is none. */
    private record Place(String where, Function<String, String> answer, String good, String bad) {
        void takes(String name) {
            Check.same(where + " " + name, answer.apply(name), good);
        }

        void refuses(String name) {
            Check.same(where + " " + name, answer.apply(name), bad);
        }
    }

    private static final Place[] ALONE = {
        new Place("the name of a table", n -> new Desk().table(n + " zz"), "0", Desk.ARGUMENT),
        new Place("the first column", n -> new Desk().table("zz " + n), "0", Desk.ARGUMENT),
        new Place("the last column", n -> new Desk().table("zz zy zx zw zv zu " + n), "0", Desk.ARGUMENT),
        new Place("let", n -> new Desk().compile("{let " + n + "=1}"), "0", "6"),
        new Place("each", n -> new Desk().compile("{each " + n + "}{end}"), "0", "7"),
        new Place("the column of each", n -> new Desk().compile("{each zz " + n + "=1}{end}"), "0", "10"),
        new Place("a variable", NameBoundsTest::variable, "7", Desk.NONE),
    };

    /** Here a place without letters may be another factor. */
    private static final Place[] FACTORS = {
        new Place("a factor", n -> new Desk().compile("{1+" + n + "}"), "0", "4"),
        new Place("a function", n -> new Desk().compile("{1+" + n + "(1)}"), "0", "4"),
        new Place("an argument", n -> new Desk().compile("{f(1," + n + ")}"), "0", "6"),
        new Place("a name in ( )", n -> new Desk().compile("{(" + n + ")}"), "0", "3"),
        new Place("a name behind -", n -> new Desk().compile("{-" + n + "}"), "0", "3"),
        new Place("a name behind =", n -> new Desk().compile("{let a=" + n + "}"), "0", "8"),
    };

    public static void main(String[] args) {
        oneToEight();
        letters();
        reservedWords();
        wordsOfTags();
        Check.end();
    }

    private static String variable(String name) {
        Desk desk = new Desk();
        desk.merged("{let " + name + "=7}");
        return desk.variable(name);
    }

    private static void oneToEight() {
        Check.sentence("A NAME is 1 to 8 letters");
        for (Place place : ALONE) {
            place.refuses("");
            place.takes("q");
            place.takes("abcdefgh");
            place.refuses("abcdefghi");
            place.refuses("q".repeat(16));
        }
        for (Place place : FACTORS) {
            place.takes("q");
            place.takes("abcdefgh");
            place.refuses("abcdefghi");
            place.refuses("q".repeat(17));
        }
        Check.same("a tag's name of nine letters", new Desk().compile("{abcdefghi}"), 2);
        Check.same("a tag's name of eight letters", new Desk().compile("{abcdefgh}"), 0);
        Check.same("all eight letters tell names apart",
                new Desk().merged("{let abcdefgh=1}{let abcdefgi=2}{let bbcdefgh=3}{abcdefgh}{abcdefgi}{bbcdefgh}"),
                "123");
    }

    private static void letters() {
        Check.sentence("letters a .. z");
        for (int b = 0; b <= 255; b++) {
            char c = (char) b;
            boolean letter = c >= 'a' && c <= 'z';
            String alone = letter ? "0" : Desk.ARGUMENT;
            Check.same("a table with the name " + b, new Desk().table(c + " zz"), alone);
            Check.same("a column with the name " + b, new Desk().table("zz " + c), alone);
            Check.same("a column that ends with " + b, new Desk().table("zz q" + c), alone);
            Check.same("let " + b, new Desk().compile("{let " + c + "=1}"), letter ? 0 : 6);
            Check.same("let q" + b, new Desk().compile("{let q" + c + "=1}"), letter ? 0 : c == '=' ? 8 : 7);
            Check.same("each " + b, new Desk().compile("{each " + c + "}{end}"), letter ? 0 : 7);
            Check.same("each z " + b, new Desk().compile("{each z " + c + "=1}{end}"), letter ? 0 : 9);
            Desk desk = new Desk();
            desk.merged("{let q=7}" + (letter ? "{let " + c + "=8}" : ""));
            Check.same("variable " + b, desk.variable(String.valueOf(c)), letter ? 8 : Desk.NONE);
            Check.same("variable q and " + b, desk.variable("q" + c), Desk.NONE);
        }
    }

    private static void reservedWords() {
        Check.sentence("and none of the words each, end, if, else, let");
        for (String word : WORDS) {
            String shorter = word.substring(0, word.length() - 1);
            for (Place place : ALONE) {
                place.refuses(word);
                place.takes(word + "s");
                place.takes("s" + word);
                place.takes(shorter);
            }
            for (Place place : FACTORS) {
                place.refuses(word);
                place.takes(word + "s");
                place.takes("s" + word);
                place.takes(shorter);
            }
        }
    }

    private static void wordsOfTags() {
        Check.sentence("letters that stand there are read as far as they go; "
                + "are they one of the five words, it is that tag");
        String[] names = {"eac", "eachs", "en", "ends", "i", "iff", "els", "elses", "le", "lets", "eache"};
        for (String name : names) {
            Check.same(name, new Desk().merged("{let " + name + "=3}{" + name + "}"), "3");
        }
        Check.same("a name that begins with if, and a (", new Desk().compile("{ifs(1)}"), 0);
        Check.same("if and a (", new Desk().compile("{if(1)}"), 4);
    }
}
