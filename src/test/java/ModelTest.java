import java.util.Map;
import java.util.Random;
import java.util.TreeMap;

/** All promises: long runs of calls, made up from fixed seeds, answered by the class and by the model. */
public final class ModelTest {
    private static final int RUNS = 4000;
    /** A template of 600 bytes, an output that is read directly, and the other calls of a round. */
    private static final int ROUND_LIMIT = 150;
    private static final String[] NAMES = {"a", "b", "no", "qty", "t", "u", "x", "abcdefgh", "min"};
    private static final String[] FUNCTIONS = {"pct", "div", "min", "max", "abs", "len", "eq", "lt", "sum", "count",
        "f"};
    private static final String[] KINDS = {"ee", "ee", "eee", "ee", "e", "w", "ee", "ee", "tc", "t", "e"};
    private static final String[] ENDS = {"", "", ":2", ":4>12", "<9", ">20"};
    private static final String[] NUMBERS = {"0", "1", "2", "3", "7", "50", "100", "101", "12345", "31622777",
        "100000000", "999999999999999", "500000000000000"};
    private static final String[] WORDS = {"", "a", "b", "1", "abcdefgh", "abcdefghi", "abcdefghijkl", "x y", "{"};
    private static final String BYTES = "{}(),'+-*:<>= ;aeinx0129\n\u00ff";

    /** How often each kind of answer came, as a run that meets none of a kind would say nothing about it. */
    private static final Map<String, Integer> MET = new TreeMap<>();

    private final Random random;
    private final Desk desk = new Desk();
    private final Model model = new Model();

    private ModelTest(long seed) {
        random = new Random(seed);
    }

    public static void main(String[] args) {
        for (int seed = 0; seed < RUNS; seed++) {
            new ModelTest(seed).run("run " + seed);
        }
        enoughMet();
        Check.end();
    }

    private static void enoughMet() {
        String[] kinds = {"table +", "table " + Desk.ARGUMENT, "table " + Desk.UNSUPPORTED,
            "record +", "record " + Desk.INDEX, "record " + Desk.ARGUMENT, "record " + Desk.UNSUPPORTED,
            "cell +", "cell " + Desk.INDEX, "cell " + Desk.ARGUMENT, "drop +", "drop " + Desk.INDEX,
            "compile 0", "compile +", "merge +", "merge " + Desk.STATE,
            "merge -1", "merge -2", "merge -3", "merge -4", "merge -5"};
        for (String kind : kinds) {
            Check.same("made-up calls with an answer as " + kind + " are many", MET.getOrDefault(kind, 0) >= 100, true);
        }
    }

    private static void meet(String call, String answer) {
        boolean fault = call.equals("merge") && answer.startsWith("-");
        boolean plain = answer.startsWith("throws.") || call.equals("compile") && answer.equals("0");
        String kind = plain ? answer : fault ? "-" + answer.charAt(1) : "+";
        MET.merge(call + " " + kind, 1, Integer::sum);
    }

    private String pick(String[] from) {
        return from[random.nextInt(from.length)];
    }

    private boolean chance(int percent) {
        return random.nextInt(100) < percent;
    }

    private void run(String run) {
        for (int i = 0; i < 3; i++) {
            answer(run, "table");
        }
        for (int i = random.nextInt(40); i > 0; i--) {
            answer(run, "record");
        }
        String[] calls = {"table", "record", "record", "cell", "drop", "compile", "compile", "compile", "merge"};
        while (desk.callsLeft() > ROUND_LIMIT) {
            String call = pick(calls);
            state(run + " after " + call + " " + answer(run, call));
        }
    }

    /** Has a call answered by both, and a template merged: the text that it took. */
    private String answer(String run, String call) {
        int table = random.nextInt(chance(80) ? 3 : 5) - (chance(5) ? 1 : 0);
        int record = someRecord();
        int column = someColumn();
        String text = "";
        String got;
        String want;
        if (call.equals("table")) {
            text = heading();
            got = desk.table(text);
            want = model.table(text);
        } else if (call.equals("record")) {
            text = cells(table);
            got = desk.record(table, text);
            want = model.record(table, text);
        } else if (call.equals("cell")) {
            text = spoiled(cellText(), 30);
            got = desk.cell(table, record, column, text);
            want = model.cell(table, record, column, text);
        } else if (call.equals("drop")) {
            got = desk.drop(table, record);
            want = model.drop(table, record);
        } else if (call.equals("compile")) {
            text = template();
            got = desk.compile(text);
            want = String.valueOf(model.compile(text));
        } else {
            got = desk.merge();
            want = model.merge();
        }
        Check.same(run + " " + call + " " + text, got, want);
        meet(call, want);
        if (call.equals("compile") && want.equals("0")) {
            String merged = model.merge();
            Check.same(run + " merge of " + text, desk.merge(), merged);
            meet("merge", merged);
        }
        return text;
    }

    private int someRecord() {
        return random.nextInt(chance(80) ? 3 : 17);
    }

    private int someColumn() {
        return random.nextInt(chance(80) ? 2 : 7);
    }

    private void state(String run) {
        int table = random.nextInt(4);
        int record = someRecord();
        int column = someColumn();
        Check.same(run + ": output", desk.output(), model.output);
        for (int what = -1; what <= 5; what++) {
            Check.same(run + ": about " + what, desk.about(what), model.about(what));
        }
        String name = pick(NAMES);
        Check.same(run + ": variable " + name, desk.variable(name), model.variable(name));
        Check.same(run + ": number", desk.number(table, record, column), model.number(table, record, column));
    }

    private String heading() {
        StringBuilder text = new StringBuilder(pick(NAMES));
        int columns = chance(10) ? random.nextInt(9) : 1 + random.nextInt(3);
        for (int i = 0; i < columns; i++) {
            text.append(' ').append(pick(NAMES));
        }
        return spoiled(text.toString(), 5);
    }

    private String cellText() {
        String sign = chance(25) ? "-" : "";
        return spoiled(chance(70) ? sign + pick(NUMBERS) : pick(WORDS), 5);
    }

    private String cells(int table) {
        int columns = table >= 0 && table < model.sheets.size() ? model.sheets.get(table).columns.size() : 2;
        StringBuilder text = new StringBuilder(cellText());
        for (int i = 1; i < columns; i++) {
            text.append(';').append(cellText());
        }
        return spoiled(text.toString(), 5);
    }

    private String template() {
        if (chance(5)) {
            return quiet();
        }
        StringBuilder text = new StringBuilder();
        if (chance(70)) {
            for (String name : NAMES) {
                text.append("{let ").append(name).append('=').append(pick(NUMBERS)).append('}');
            }
        }
        int loops = chance(25) ? 1 + random.nextInt(4) : 0;
        for (int i = 0; i < loops; i++) {
            text.append("{each ").append(tableName()).append('}');
        }
        pieces(text, loops);
        text.append(loops > 0 && chance(50) ? "{'wide'>20}" : "");
        text.append("{end}".repeat(chance(95) ? loops : random.nextInt(7)));
        String whole = spoiled(text.toString(), 25);
        return whole.substring(0, Math.min(chance(80) ? 500 : 600, whole.length()));
    }

    /** Loops that print little, so that they come to their 3001st tag before their 4001st byte. */
    private String quiet() {
        int loops = 4 + random.nextInt(3);
        StringBuilder text = new StringBuilder("{let x=0}");
        for (int i = 0; i < loops; i++) {
            text.append("{each ").append(tableName()).append('}').append(chance(20) ? "{let x=x+1}" : "");
        }
        text.append("{let x=x+1}").append(chance(50) ? "{if x-3000}{else}!{end}" : "{if lt(x,9)}{x}{end}");
        return text.append("{end}".repeat(loops)).append("{x}").toString();
    }

    private void pieces(StringBuilder text, int level) {
        int count = 1 + random.nextInt(level == 0 ? 6 : 3);
        for (int i = 0; i < count && text.length() < 560; i++) {
            piece(text, level);
        }
    }

    private void piece(StringBuilder text, int level) {
        int kind = random.nextInt(10);
        if (kind < 1) {
            text.append(pick(new String[] {"text", "{{", "}", "\n", "\u00e9"}));
        } else if (kind < 4) {
            text.append('{').append(expr(1)).append(pick(ENDS)).append('}');
        } else if (kind < 6) {
            text.append("{let ").append(pick(NAMES)).append('=').append(expr(1)).append('}');
        } else if (level < 7 && kind < 8) {
            text.append("{each ").append(tableName());
            text.append(chance(30) ? " " + columnName() + "=" + expr(1) : "").append('}');
            pieces(text, level + 1);
            text.append("{end}");
        } else if (level < 7) {
            text.append("{if ").append(expr(1)).append('}');
            pieces(text, level + 1);
            if (chance(50)) {
                text.append("{else}");
                pieces(text, level + 1);
            }
            text.append("{end}");
        }
    }

    private String tableName() {
        boolean any = model.sheets.isEmpty() || chance(3);
        return any ? pick(NAMES) : model.sheets.get(random.nextInt(model.sheets.size())).name;
    }

    private String columnName() {
        if (model.sheets.isEmpty() || chance(5)) {
            return pick(NAMES);
        }
        var columns = model.sheets.get(random.nextInt(model.sheets.size())).columns;
        return columns.get(random.nextInt(columns.size()));
    }

    private String expr(int depth) {
        StringBuilder text = new StringBuilder(factor(depth));
        while (chance(depth < 4 ? 30 : 10)) {
            text.append("+-*".charAt(random.nextInt(3))).append(factor(depth));
        }
        return text.toString();
    }

    private String factor(int depth) {
        int kind = random.nextInt(depth > 3 && chance(70) || depth > 9 ? 6 : 10);
        if (kind < 3) {
            return chance(1) ? "1234567890123456" : pick(NUMBERS);
        } else if (kind < 4) {
            return chance(20) ? "'" + pick(WORDS) + "'" : pick(NUMBERS);
        } else if (kind < 6) {
            return pick(NAMES);
        } else if (kind < 7) {
            return "(" + expr(depth + 1) + ")";
        } else if (kind < 8) {
            return "-" + factor(depth + 1);
        }
        return call(depth);
    }

    private String call(int depth) {
        int which = random.nextInt(FUNCTIONS.length);
        String kinds = chance(95) ? KINDS[which] : pick(KINDS);
        StringBuilder text = new StringBuilder(FUNCTIONS[which]).append('(');
        for (int i = 0; i < kinds.length(); i++) {
            char kind = chance(95) ? kinds.charAt(i) : 'e';
            text.append(i > 0 ? "," : "");
            text.append(kind == 't' ? tableName() : kind == 'c' ? columnName()
                    : kind == 'w' ? "'" + pick(WORDS) + "'" : expr(depth + 1));
        }
        return text.append(')').toString();
    }

    /** Now and then, with a byte changed, put in, or taken out. */
    private String spoiled(String text, int percent) {
        if (!chance(percent)) {
            return text;
        }
        StringBuilder spoiled = new StringBuilder(text);
        int at = random.nextInt(text.length() + 1);
        char b = BYTES.charAt(random.nextInt(BYTES.length()));
        if (chance(40) || at == text.length()) {
            spoiled.insert(at, b);
        } else if (chance(50)) {
            spoiled.setCharAt(at, b);
        } else {
            spoiled.deleteCharAt(at);
        }
        return spoiled.toString();
    }
}
