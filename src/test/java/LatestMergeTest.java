/** Promises 1 and 8 to 12: what is told before the first merge(), after it, after a fault, and after refused calls. */
public final class LatestMergeTest {
    private static final String NOTHING = "size 0 [] tags 0 done 0 set 0 v " + Desk.NONE + " w " + Desk.NONE;

    public static void main(String[] args) {
        newObject();
        beforeTheFirst();
        afterOne();
        afterAFault();
        afterARefusedMerge();
        afterARefusedCompile();
        beforeTheNext();
        out();
        variables();
        variableNames();
        records();
        otherWhats();
        blocksThatWereOpen();
        loopsThatWereOpen();
        valuesThatWaited();
        constantsOfOthers();
        Check.end();
    }

    /** All that promises 9 to 12 tell of the latest merge(), and of the template. */
    private static String told(Desk desk) {
        return "size " + desk.size() + " [" + desk.output() + "] tags " + desk.about(2) + " done " + desk.about(3)
                + " set "
                + desk.about(4) + " v " + desk.variable("v") + " w " + desk.variable("w");
    }

    private static void newObject() {
        Check.sentence("No tables, no template, no output; the text is empty");
        Desk desk = new Desk();
        Check.same("a new object", told(desk), NOTHING);
        Check.same("tables", desk.about(0), 0);
        Check.same("records", desk.about(1), 0);
        Check.same("no template", desk.merge(), Desk.STATE);
        Check.same("no output", desk.out(0), Desk.INDEX);
        Check.same("no table", desk.number(0, 0, 0), Desk.INDEX);
        Check.same("no table", desk.drop(0, 0), Desk.INDEX);
        Check.same("no table", desk.record(0, ""), Desk.INDEX);
        Check.same("no table", desk.cell(0, 0, 0, ""), Desk.INDEX);
        Check.same("the text is empty, so no table", new Desk().table(""), Desk.ARGUMENT);
        Check.same("the text is empty, so no name", new Desk().variable(""), Desk.NONE);
        Check.same("the text is empty, so a template of nothing", new Desk().merged(""), "");
        Desk other = Desk.of("t a", "1");
        other.merged("{let v=1}x");
        Check.same("another object has nothing of it", told(new Desk()), NOTHING);
    }

    private static void beforeTheFirst() {
        Check.sentence("the latest merge() (before the first)");
        Desk desk = Desk.of("t a", "1");
        Check.same("with a table", told(desk), NOTHING);
        desk.compile("x{let v=1}{end}");
        Check.same("with a wrong template", told(desk), NOTHING);
        desk.compile("x{let v=1}{v}");
        Check.same("with a template", told(desk), NOTHING.replace("tags 0", "tags 2"));
        Check.same("no byte", desk.out(0), Desk.INDEX);
        desk.compile("{");
        Check.same("merge is refused", desk.merge(), Desk.STATE);
        Check.same("with a refused merge", told(desk), NOTHING);
    }

    private static void afterOne() {
        Check.sentence("the latest merge() (after it)");
        Desk desk = new Desk();
        desk.merged("x{let v=5}{v}{let w='q'}");
        Check.same("once", told(desk), "size 2 [x5] tags 3 done 3 set 2 v 5 w " + Desk.NONE);
        desk.merge();
        Check.same("twice", told(desk), "size 2 [x5] tags 3 done 3 set 2 v 5 w " + Desk.NONE);
        desk.merged("{let w=-6}");
        Check.same("another", told(desk), "size 0 [] tags 1 done 1 set 1 v " + Desk.NONE + " w -6");
        desk.merged("");
        Check.same("an empty one", told(desk), NOTHING);
        desk.merged("{if 0}{let v=1}{else}{end}");
        Check.same("tags that are not done", told(desk), NOTHING.replace("tags 0 done 0", "tags 4 done 1"));
    }

    private static void afterAFault() {
        Check.sentence("the latest merge() (that ended in a fault); what came out before it is there");
        Desk desk = new Desk();
        Check.same("merge", desk.merged("ab{let v=5}c{let w=v+nope}d"), "-10012 abc");
        Check.same("a let that faults sets nothing", told(desk), "size 3 [abc] tags 2 done 2 set 1 v 5 w " + Desk.NONE);
        Check.same("the last byte", desk.out(2), (int) 'c');
        Check.same("none behind it", desk.out(3), Desk.INDEX);
        desk.merged("{let v=1}{let v=1+'a'}");
        Check.same("the value from before", told(desk), "size 0 [] tags 2 done 2 set 1 v 1 w " + Desk.NONE);
        desk.merged("{nope}{let v=1}");
        Check.same("a fault at once", told(desk), NOTHING.replace("tags 0 done 0", "tags 2 done 1"));
    }

    private static void afterARefusedMerge() {
        Check.sentence("A call that throws changes nothing (merge)");
        Desk desk = new Desk();
        desk.merged("ab{let v=5}{let w=6}");
        desk.compile("{let v=7}{");
        String before = told(desk);
        Check.same("before it", before, "size 2 [ab] tags 0 done 2 set 2 v 5 w 6");
        Check.same("merge", desk.merge(), Desk.STATE);
        Check.same("after it", told(desk), before);
        Check.same("merge", desk.merge(), Desk.STATE);
        Check.same("after it", told(desk), before);
    }

    private static void afterARefusedCompile() {
        Check.sentence("there is no template then (all else is as it was)");
        String[] wrong = {"{", "{let v=1}{end}", "{let v=1}x{v}".repeat(9) + "{?}", "x".repeat(501), "{a}".repeat(121)};
        for (String template : wrong) {
            Desk desk = Desk.of("t a", "1");
            desk.merged("ab{let v=5}");
            desk.compile(template);
            Check.same("after " + template, told(desk), "size 2 [ab] tags 0 done 1 set 1 v 5 w " + Desk.NONE);
            Check.same("tables", desk.about(0), 1);
            Check.same("records", desk.about(1), 1);
            Check.same("cells", desk.number(0, 0, 0), 1);
            desk = new Desk();
            desk.merged("ab{let v=5}{nope}");
            desk.compile(template);
            Check.same("after a fault and " + template, told(desk), "size 2 [ab] tags 0 done 2 set 1 v 5 w "
                    + Desk.NONE);
        }
    }

    private static void beforeTheNext() {
        Check.sentence("the latest merge() (until the next one)");
        Desk desk = Desk.of("t a", "1", "2");
        desk.merged("{each t}{let v=a}{a}{end}");
        String before = told(desk);
        Check.same("after it", before, "size 2 [12] tags 4 done 5 set 1 v 2 w " + Desk.NONE);
        desk.drop(0, 0);
        desk.cell(0, 0, 0, "9");
        desk.record(0, "7");
        desk.table("u b");
        Check.same("other calls leave it", told(desk), before);
        Check.same("a template alone leaves it", desk.compile("{let w=1}"), 0);
        Check.same("but for its tags", told(desk), before.replace("tags 4", "tags 1"));
        desk.merge();
        Check.same("the next one", told(desk), "size 0 [] tags 1 done 1 set 1 v " + Desk.NONE + " w 1");
        desk.compile("{each t}{a}{end}");
        Check.same("the tables as they are now", desk.merge(), 2);
        Check.same("their cells", desk.output(), "97");
        desk.drop(0, 1);
        Check.same("the same template", desk.merge(), 1);
        Check.same("with what is left", desk.output(), "9");
    }

    private static void out() {
        Check.sentence("Byte i of what came out. IndexOutOfBoundsException");
        Desk desk = new Desk();
        desk.merged("abc");
        Object[][] due = {{0, 97}, {1, 98}, {2, 99}, {-1, Desk.INDEX}, {3, Desk.INDEX}, {600, Desk.INDEX}, {4000,
            Desk.INDEX},
            {Integer.MAX_VALUE, Desk.INDEX}, {Integer.MIN_VALUE, Desk.INDEX}};
        for (Object[] pair : due) {
            Check.same("out " + pair[0], desk.out((Integer) pair[0]), pair[1]);
        }
        desk.merged("d");
        Check.same("of the latest", desk.out(0), 100);
        Check.same("not of the one before", desk.out(1), Desk.INDEX);
        desk.merged("");
        Check.same("of nothing", desk.out(0), Desk.INDEX);
        Desk full = Desk.of("t a", "0 1 2 3 4 5 6 7 8 9 10 11 12 13 14 15".split(" "));
        full.compile("{each t}{each t}{a<19}{end}{end}");
        Check.same("merge", full.merge(), -40016);
        Check.same("size", full.size(), 4000);
        Check.same("the last byte", full.out(3999), 32);
        Check.same("none behind it", full.out(4000), Desk.INDEX);
    }

    private static void variables() {
        Check.sentence("its number after the latest merge(). NoSuchElementException when it was not set, or is a word");
        Desk desk = new Desk();
        desk.merged("{let v=1}{let v=v+1}{let w='a'}{let x=''}{let y=-0}{let z='1'}{let big=999999999999999+1}");
        String[][] due = {{"v", "2"}, {"w", Desk.NONE}, {"x", Desk.NONE}, {"y", "0"}, {"z", Desk.NONE},
            {"big", "1000000000000000"}, {"u", Desk.NONE}};
        for (String[] pair : due) {
            Check.same("variable " + pair[0], desk.variable(pair[0]), pair[1]);
        }
        Check.sentence("4 variables that it set (words too; one that is set twice is one)");
        Check.same("set", desk.about(4), 6);
        desk.merged("{let v='a'}{let v=3}");
        Check.same("a word, then a number", desk.variable("v"), 3);
        desk.merged("{let v=3}{let v='a'}");
        Check.same("a number, then a word", desk.variable("v"), Desk.NONE);
        Check.same("set", desk.about(4), 1);
        Desk tables = Desk.of("t a", "1", "2");
        tables.merged("{each t}{a}{end}");
        Check.same("a column is no variable", tables.variable("a"), Desk.NONE);
        tables.merged("{each t}{let a=a*5}{let b=a}{end}");
        Check.same("one with a column's name is", tables.variable("a"), 10);
        Check.same("what the column was", tables.variable("b"), 2);
        Check.sentence("4 variables that it set (as many as a template can)");
        StringBuilder lets = new StringBuilder();
        for (char c = 'a'; c <= 'z'; c++) {
            lets.append("{let ").append(c).append("=1}{let q").append(c).append("=2}");
        }
        desk.merged(lets.toString());
        Check.same("52 of them, in 494 bytes", desk.about(4), 52);
        Check.same("the first", desk.variable("a"), 1);
        Check.same("the last", desk.variable("qz"), 2);
    }

    private static void variableNames() {
        Check.sentence("The text is taken as the name of a variable");
        Desk desk = new Desk();
        desk.merged("{let v=1}{let abcdefgh=2}");
        Check.same("eight letters", desk.variable("abcdefgh"), 2);
        String[] none = {"", " ", "v ", " v", "vv", "V", "v=1", "{v}", "abcdefg", "abcdefghi", "bcdefgh", "let", "end",
            "1", "v\0", "\0v"};
        for (String name : none) {
            Check.same("variable " + name, desk.variable(name), Desk.NONE);
        }
        Check.same("v still", desk.variable("v"), 1);
    }

    private static void records() {
        Check.sentence("0 tables, 1 records in all");
        Desk desk = new Desk();
        String[] headings = {"t a", "u a", "v a", "w a"};
        for (int i = 0; i < 4; i++) {
            Check.same("records", desk.about(1), 2 * i);
            desk.with(headings[i], "1", "2");
            Check.same("tables", desk.about(0), i + 1);
        }
        desk.drop(3, 1);
        desk.drop(0, 0);
        Check.same("records", desk.about(1), 6);
        Check.same("tables", desk.about(0), 4);
        Check.sentence("2 tags of the template");
        String[] templates = {"", "x", "{{", "{1}", "{if 1}{end}", "{if 1}{else}{end}", "{each t}{let a=1}{end}"};
        int[] tags = {0, 0, 0, 1, 2, 3, 3};
        for (int i = 0; i < templates.length; i++) {
            desk.compile(templates[i]);
            Check.same("tags of " + templates[i], desk.about(2), tags[i]);
        }
    }

    private static void otherWhats() {
        Check.sentence("IndexOutOfBoundsException for another what");
        Desk desk = new Desk();
        for (int what = 0; what <= 4; what++) {
            Check.same("about " + what, desk.about(what), 0);
        }
        int[] others = {-1, 5, 6, 256, Integer.MAX_VALUE, Integer.MIN_VALUE};
        for (int what : others) {
            Check.same("about " + what, desk.about(what), Desk.INDEX);
        }
    }

    private static void blocksThatWereOpen() {
        Check.sentence("The text is taken as a template (whatever an earlier one left open)");
        String six = "{if 1}{each t}".repeat(3);
        String[] left = {"{if 1}", "{if 1}{else}{if 1}", six, six + "{if 1}", "{each t}{?}"};
        for (String template : left) {
            Desk desk = new Desk();
            Check.same("wrong: " + template, desk.compile(template).equals("0"), false);
            Check.same("no block is open", desk.merged("x"), "x");
            desk.compile(template);
            Check.same("none to be ended", desk.compile("{end}"), 1);
            desk.compile(template);
            Check.same("none for an else", desk.compile("{else}"), 1);
            desk.compile(template);
            Check.same("six may be open", desk.compile(six + "{end}".repeat(6)), 0);
        }
        Desk desk = new Desk();
        desk.compile("{a}".repeat(120) + "{");
        Check.same("120 tags may stand in the next", desk.compile("{7}".repeat(120)), 0);
    }

    private static void loopsThatWereOpen() {
        Check.sentence("MERGING (whatever loops an earlier fault left)");
        Desk desk = Desk.of("t a", "5");
        String six = "{each t}".repeat(6);
        desk.compile(six + "{nope}" + "{end}".repeat(6));
        Check.same("a fault in six loops", desk.merge(), -10048);
        Check.same("the same once more", desk.merge(), -10048);
        Check.same("a column outside of a loop", desk.merged("{a}"), "-10000 ");
        Check.same("six loops again", desk.merged(six + "{a}" + "{end}".repeat(6) + "{let a=3}{a}"), "53");
    }

    private static void valuesThatWaited() {
        Check.sentence("MERGING (whatever values waited when an earlier one ended in a fault)");
        Desk desk = Desk.of("t a", "5", "6");
        desk.compile("{each t a=1+2*min(3,4+5*min(6,7+8*nope))}{end}");
        for (int i = 0; i < 40; i++) {
            Check.same("a fault", desk.merge(), -10000);
        }
        Check.same("a sum", desk.merged("{1+2*min(3,4+5*min(6,7+8*9))}{each t a=2+3}{a}{end}"), "75");
    }

    private static void constantsOfOthers() {
        Check.sentence("The text is taken as a template (after many others)");
        Desk desk = new Desk();
        for (int i = 1; i <= 7; i++) {
            Check.same("template " + i, desk.merged("{" + "1+1+".repeat(24) + i + "+" + i + "}"), 48 + 2 * i);
            Check.same("of which another half is wrong", desk.compile("{" + "3+".repeat(40) + "}"), 82);
        }
        Check.same("the last", desk.merged("{1}{2}{'a'}{3}{'b'}"), "12a3b");
    }
}
