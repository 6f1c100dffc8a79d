/** All promises together: runs of calls in which each call meets what the ones before it left. */
public final class WholeRunTest {
    private static final String LETTERS = "{each buyer}Dear {name},{let s=0}{each order by=id}{each item no=item}\n"
            + "{qty>3} {name<4}{qty*price:2>9}{let s=s+qty*price}{end}{end}{if s}\nTotal{s:2>12}{each tax}\n"
            + "VAT{pct(s,rate):2>14}{end}{else} no orders{end}\n{end}";
    private static final String[] SIXTEEN = "0 1 2 3 4 5 6 7 8 9 10 11 12 13 14 15".split(" ");

    public static void main(String[] args) {
        lettersOfAShop();
        templatesReplaced();
        eachFaultAndAGoodOne();
        nothingMended();
        kindMended();
        numbersMended();
        lengthMended();
        tagsMended();
        refusedOnTheWay();
        textAcrossCalls();
        twoDesks();
        lastOfAllCalls();
        Check.end();
    }

    private static Desk shop() {
        return Desk.of("buyer id name", "1;Ann", "2;Bob", "3;Cy")
                .with("item no name price", "10;Pen;150", "20;Ink;2999", "30;Pad;425")
                .with("order by item qty", "1;20;2", "2;10;10", "1;30;4", "2;99;1")
                .with("tax rate", "19");
    }

    /** How many tables, records, tags of the template, tags done and variables set there are. */
    private static String counts(Desk desk) {
        StringBuilder all = new StringBuilder();
        for (int what = 0; what <= 4; what++) {
            all.append(what == 0 ? "" : " ").append(desk.about(what));
        }
        return all.toString();
    }

    /** Merges the template that is there, and tells the answer and what came out. */
    private static String again(Desk desk) {
        return desk.merge() + " " + desk.output();
    }

    private static void lettersOfAShop() {
        Check.sentence("a shop's letters, its records changed and dropped between two merges");
        Desk desk = shop();
        Check.same("compile", desk.compile(LETTERS), 0);
        Check.same("before the first merge", counts(desk), "4 11 19 0 0");
        String bob = "Dear Bob,\n 10 Pen     15.00\nTotal       15.00\nVAT          2.85\n";
        String first = "Dear Ann,\n  2 Ink     59.98\n  4 Pad     17.00\nTotal       76.98\nVAT         14.63\n" + bob
                + "Dear Cy, no orders\n";
        Check.same("the first merge", again(desk), first.length() + " " + first);
        Check.same("its counts", counts(desk), "4 11 19 35 1");
        Check.same("the variable", desk.variable("s"), 0);
        Check.same("a column is none", desk.variable("price"), Desk.NONE);

        Check.same("a price", desk.number(1, 1, 2), 2999);
        Check.same("becomes another", desk.cell(1, 1, 2, "1000"), "");
        Check.same("as number tells", desk.number(1, 1, 2), 1000);
        Check.same("an order is gone", desk.drop(2, 0), "");
        Check.same("the next one has its number", desk.number(2, 0, 1), 10);
        Check.same("a new one", desk.record(2, "3;20;3"), 3);
        Check.same("a new buyer", desk.record(0, "4;Dan"), 3);
        Check.same("the output is the first merge's", desk.output(), first);
        String second = "Dear Ann,\n  4 Pad     17.00\nTotal       17.00\nVAT          3.23\n" + bob
                + "Dear Cy,\n  3 Ink     30.00\nTotal       30.00\nVAT          5.70\nDear Dan, no orders\n";
        Check.same("the second merge", again(desk), second.length() + " " + second);
        Check.same("its counts", counts(desk), "4 12 19 42 1");
    }

    private static void templatesReplaced() {
        Check.sentence("a template replaced by another, by a wrong one, and by another again");
        Desk desk = shop();
        Check.same("the first", desk.merged("{each item}{name}{if lt(price,425)}!{end} {end}"), "Pen! Ink Pad ");
        Check.same("its counts", counts(desk), "4 11 5 7 0");
        Check.same("the second", desk.merged("{count(order)} orders{let n=0}{each order}{let n=n+qty}{end}, {n} pieces,"
                + " dearest {let m=0}{each item}{let m=max(m,price)}{end}{m:2}"), "4 orders, 17 pieces, dearest 29.99");
        Check.same("its counts", counts(desk), "4 11 11 14 2");
        Check.same("n", desk.variable("n"), 17);
        Check.same("m", desk.variable("m"), 2999);
        Check.same("a wrong one", desk.compile("{each buyer}{name}"), 19);
        Check.same("can't be merged", desk.merge(), Desk.STATE);
        Check.same("the second merge is still told", desk.output(), "4 orders, 17 pieces, dearest 29.99");
        Check.same("but there is no template", counts(desk), "4 11 0 14 2");
        Check.same("m", desk.variable("m"), 2999);
        Check.same("the tables can be changed", desk.drop(0, 1), "");
        Check.same("another wrong one", desk.compile("{each buyer}{name}{end}{end}"), 24);
        Check.same("can't be merged", desk.merge(), Desk.STATE);
        Check.same("a right one", desk.merged("{each buyer}{name}{end}"), "AnnCy");
        Check.same("its counts", counts(desk), "4 10 3 3 0");
        Check.same("m is not set any more", desk.variable("m"), Desk.NONE);
    }

    private static void eachFaultAndAGoodOne() {
        Check.sentence("a merge that ends in each of the five faults, and a good one behind it");
        Desk desk = Desk.of("t a", SIXTEEN).with("u b", "x", "0");
        String[][] faults = {
            {"1{let v=3}{each t}{nope}{end}", "-10018 1", "2 18 4 3 1"},
            {"2{let v=3}{each u}{b+1}{end}", "-20018 2", "2 18 4 3 1"},
            {"3{let v=3}{each u}{div(v,len(b)-1)}{end}", "-30018 3", "2 18 4 3 1"},
            {"4{let v=3}{each t}{each t}{a>20}{end}{end}", "-40026 4", "2 18 6 215 1"},
            {"5{let v=3}{each t}{each t}{each t}{if 0}{end}{end}{end}{end}", "-50034 5", "2 18 9 3000 1"}};
        for (String[] fault : faults) {
            desk.compile(fault[0]);
            String got = again(desk);
            Check.same("merge of " + fault[0], got.substring(0, 8), fault[1]);
            Check.same("size of " + fault[0], desk.size(), fault[1].startsWith("-4") ? 4000 : 1);
            Check.same("counts of " + fault[0], counts(desk), fault[2]);
            Check.same("v of " + fault[0], desk.variable("v"), 3);
            Check.same("the same once more", again(desk), got);
            Check.same("a good one", desk.merged("{let w=2}{each u}{b}{w};{end}{count(t)}"), "x2;02;16");
            Check.same("its counts", counts(desk), "2 18 6 7 1");
            Check.same("v of a good one", desk.variable("v"), Desk.NONE);
            Check.same("w of a good one", desk.variable("w"), 2);
        }
    }

    private static void nothingMended() {
        Check.sentence("fault 1, then the table and the column that were missing");
        Desk desk = Desk.of("t a", "1");
        desk.compile("x{each u}{b}{end}{sum(u,c)}");
        Check.same("no table", again(desk), "-10001 x");
        Check.same("the table", desk.table("u b"), 1);
        Check.same("no records, no column c", again(desk), "-10017 x");
        Check.same("a record", desk.record(1, "7"), 0);
        Check.same("no column c", again(desk), "-10017 x7");
        Check.same("a table of that name is there", desk.table("u b c"), Desk.ARGUMENT);
        Check.same("still no column c", again(desk), "-10017 x7");
        Check.same("another template", desk.merged("x{each u}{b}{end}{sum(u,b)}"), "x77");
        Check.same("a join", desk.compile("{each v c=1}{d}{end}"), 0);
        Check.same("no table", again(desk), "-10000 ");
        Check.same("the table", desk.table("v c d"), 2);
        Check.same("without records", again(desk), "0 ");
        Check.same("one that fits", desk.record(2, "1;y"), 0);
        Check.same("another that does", desk.record(2, "01;n"), 1);
        Check.same("both", again(desk), "2 yn");
        Check.same("one no longer", desk.cell(2, 0, 0, "one"), "");
        Check.same("the other alone", again(desk), "1 n");
    }

    private static void kindMended() {
        Check.sentence("fault 2, then the cell that was a word");
        Desk desk = Desk.of("t a", "5", "x", "9");
        desk.compile("{each t}{let s=a+1}{s:1} {end}");
        Check.same("a word", again(desk), "-20008 0.6 ");
        Check.same("the variable from before", desk.variable("s"), 6);
        Check.same("no number", desk.number(0, 1, 0), Desk.NONE);
        Check.same("mended", desk.cell(0, 1, 0, "-11"), "");
        Check.same("a number", desk.number(0, 1, 0), -11);
        Check.same("the same template", again(desk), "13 0.6 -1.0 1.0 ");
        Check.same("the variable", desk.variable("s"), 10);
        Check.same("spoiled again", desk.cell(0, 2, 0, ""), "");
        Check.same("the third", again(desk), "-20008 0.6 -1.0 ");
        Check.same("gone", desk.drop(0, 2), "");
        Check.same("two are left", again(desk), "9 0.6 -1.0 ");
    }

    private static void numbersMended() {
        Check.sentence("fault 3, then the cells that were too large, or 0");
        Desk desk = Desk.of("t a", "999999999999999", "1", "1").with("u b", "0");
        desk.compile("{sum(t,a)}");
        Check.same("10^15 + 1", again(desk), "-30000 ");
        Check.same("one is gone", desk.drop(0, 1), "");
        Check.same("10^15", again(desk), "16 1000000000000000");
        Check.same("a word counts as 0", desk.record(0, "1x"), 2);
        Check.same("10^15", again(desk), "16 1000000000000000");
        Check.same("one more", desk.cell(0, 2, 0, "1"), "");
        Check.same("10^15 + 1", again(desk), "-30000 ");
        Check.same("one less", desk.cell(0, 1, 0, "-1"), "");
        Check.same("the whole sum is looked at", again(desk), "15 999999999999999");
        desk.compile("{each u}{div(7,b)}{end}");
        Check.same("by 0", again(desk), "-30008 ");
        Check.same("by another", desk.cell(1, 0, 0, "-2"), "");
        Check.same("towards 0", again(desk), "2 -3");
    }

    private static void lengthMended() {
        Check.sentence("fault 4, then a record less");
        Desk desk = Desk.of("t a", SIXTEEN);
        desk.compile("{each t}{each t}{a>16}{end}{end}.");
        Check.same("4096 bytes", desk.merge(), -40016);
        Check.same("4000 came out", desk.size(), 4000);
        Check.same("250 records and the loops", desk.about(3), 1 + 16 + 251);
        Check.same("the last byte", desk.out(3999), (int) '9');
        Check.same("a record less", desk.drop(0, 9), "");
        Check.same("3600 bytes and one", desk.merge(), 3601);
        Check.same("the last byte", desk.out(3600), (int) '.');
        Check.same("none behind it", desk.out(3601), Desk.INDEX);
    }

    private static void tagsMended() {
        Check.sentence("fault 5, then records less");
        Desk desk = Desk.of("t a", SIXTEEN);
        desk.compile("{each t}{each t}{each t}{let n=a}{end}{end}{end}");
        Check.same("sixteen", desk.merge(), -50024);
        Check.same("tags done", desk.about(3), 3000);
        Check.same("the twelfth record", desk.variable("n"), 11);
        Check.same("fifteen", desk.drop(0, 0), "");
        Check.same("the same place", desk.merge(), -50024);
        Check.same("tags done", desk.about(3), 3000);
        Check.same("the ninth record", desk.variable("n"), 9);
        Check.same("fourteen", desk.drop(0, 14), "");
        Check.same("no fault", desk.merge(), 0);
        Check.same("tags done", desk.about(3), 1 + 14 + 14 * 14 + 14 * 14 * 14);
        Check.same("the last record", desk.variable("n"), 14);
    }

    private static void refusedOnTheWay() {
        Check.sentence("refused calls on the way change nothing");
        Desk desk = shop();
        Check.same("compile", desk.compile("{each order by=2}{qty};{end}{let v='w'}"), 0);
        Check.same("merge", again(desk), "5 10;1;");
        String before = counts(desk);
        String[] refused = {desk.table("tax rate"), desk.table("more a b"), desk.record(4, "1"), desk.record(3, "1;2"),
            desk.cell(2, 4, 0, "1"), desk.cell(2, 3, 2, "}"), desk.drop(2, 4), desk.drop(-1, 0), desk.out(5),
            desk.variable("v"), desk.about(5), desk.number(2, 0, 3), desk.number(0, 0, 1), desk.type(0, 9)};
        String[] due = {Desk.ARGUMENT, Desk.UNSUPPORTED, Desk.INDEX, Desk.ARGUMENT,
            Desk.INDEX, Desk.ARGUMENT, Desk.INDEX, Desk.INDEX, Desk.INDEX,
            Desk.NONE, Desk.INDEX, Desk.INDEX, Desk.NONE, "false"};
        for (int i = 0; i < due.length; i++) {
            Check.same("refused call " + i, refused[i], due[i]);
        }
        Check.same("counts", counts(desk), before);
        Check.same("output", desk.output(), "10;1;");
        Check.same("the same template", again(desk), "5 10;1;");
        Check.same("full tables", desk.merged("{count(tax)}{count(buyer)}{count(item)}{count(order)}"), "1334");
        for (int i = 1; i < 16; i++) {
            Check.same("record " + i, desk.record(3, "" + i), i);
        }
        Check.same("a seventeenth", desk.record(3, "16"), Desk.UNSUPPORTED);
        Check.same("one is gone", desk.drop(3, 0), "");
        Check.same("one has its place", desk.record(3, "16"), 15);
        Check.same("all in order", desk.merged("{each tax}{rate} {end}"), "1 2 3 4 5 6 7 8 9 10 11 12 13 14 15 16 ");
    }

    private static void textAcrossCalls() {
        Check.sentence("what is typed waits until a call takes it");
        Desk desk = Desk.of("t a", "1", "2", "3");
        desk.merged("{each t}{a}{let v=a}{end}");
        desk.write("{each t}");
        Check.same("size", desk.size(), 3);
        desk.write("{a}");
        Check.same("drop", desk.drop(0, 1), "");
        desk.write(",");
        Check.same("number", desk.number(0, 1, 0), 3);
        desk.write("{end}");
        Check.same("merge of the template from before", desk.merge(), 2);
        Check.same("out", desk.out(1), (int) '3');
        Check.same("refused", desk.drop(0, 2), Desk.INDEX);
        Check.same("about", desk.about(4), 1);
        desk.write(".");
        Check.same("compile takes it all", desk.compile(""), 0);
        Check.same("merge", again(desk), "5 1,3,.");
        desk.write("v");
        Check.same("taken by a refused call", desk.record(1, ""), Desk.INDEX);
        Check.same("so that it is gone", desk.compile("x"), 0);
        Check.same("merge", again(desk), "1 x");
    }

    private static void twoDesks() {
        Check.sentence("an object has nothing of another one");
        Desk one = Desk.of("t a", "1", "2");
        Desk other = Desk.of("u b", "x").with("t a", "9");
        one.write("{each t}");
        other.write("{each t}");
        Check.same("one compiles", one.compile("{a}{let v=a}{end}"), 0);
        Check.same("the other one", other.compile("{a}{nope}{end}"), 0);
        Check.same("one merges", again(one), "2 12");
        Check.same("the other one", again(other), "-10011 9");
        Check.same("one's counts", counts(one), "1 2 4 5 1");
        Check.same("the other one's", counts(other), "2 2 4 3 0");
        Check.same("one has a wrong template", one.compile("{"), 2);
        Check.same("not the other one", again(other), "-10011 9");
        Check.same("one drops a record", one.drop(0, 0), "");
        Check.same("not the other one", other.number(1, 0, 0), 9);
        Check.same("one's output", one.output(), "12");
        Check.same("one's variable", one.variable("v"), 2);
        Check.same("the other one's", other.variable("v"), Desk.NONE);
    }

    private static void lastOfAllCalls() {
        Check.sentence("An object is used for at most 512 calls");
        Desk desk = Desk.of("t a b", "0;x");
        desk.compile("{each t}{let n=a+1}{a}{b}{end}{n>4}");
        int round = 0;
        while (desk.callsLeft() > 20) {
            Check.same("round " + round, again(desk), (round > 9 ? "7 " : "6 ") + round + "x"
                    + " ".repeat(round + 1 > 9 ? 2 : 3) + (round + 1));
            Check.same("n", desk.variable("n"), round + 1);
            round++;
            Check.same("the next cell", desk.cell(0, 0, 0, "" + round), "");
        }
        while (desk.callsLeft() > 1) {
            Check.same("the cell", desk.number(0, 0, 0), round);
        }
        Check.same("the 512th call", desk.merge(), round > 9 ? 7 : 6);
    }
}
