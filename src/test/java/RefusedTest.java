import java.util.ArrayList;
import java.util.List;
import java.util.function.Function;
import java.util.function.Supplier;

/**
 * "A call that throws changes nothing (but for the text)": each refused call is made on one of two desks on
 * which the same was done before, and the next calls must answer alike on both.
 */
public final class RefusedTest {
    private record State(String name, Supplier<Desk> desk) {
    }

    private record Call(String name, boolean takesText, Function<Desk, String> call) {
    }

    private static final String TEMPLATE = "{let v=7}{let w='word'}ab{each t}{a},{b};{end}";
    private static final List<State> STATES = List.of(
            new State("a new object", Desk::new),
            new State("a table without records", () -> Desk.of("t a b")),
            new State("tables", RefusedTest::tables),
            new State("a template", () -> done(tables(), false, TEMPLATE)),
            new State("a merge", () -> done(tables(), true, TEMPLATE)),
            new State("a fault", () -> done(tables(), true, TEMPLATE + "{nope}")),
            new State("a merge and a wrong template", () -> done(done(tables(), true, TEMPLATE), false, "{")),
            new State("a merge and another template", () -> done(done(tables(), true, TEMPLATE), false, "x{let w=1}")),
            new State("four full tables", () -> done(full(), true, TEMPLATE)),
            new State("records that were dropped", RefusedTest::dropped));

    private static final List<Call> CALLS = new ArrayList<>();

    public static void main(String[] args) {
        typing();
        tableCalls();
        recordCalls();
        cellCalls();
        otherCalls();
        Check.sentence("A call that throws changes nothing (but for the text)");
        for (Call call : CALLS) {
            int refused = 0;
            for (State state : STATES) {
                refused += isRefused(state, call) ? 1 : 0;
            }
            Check.same(call.name + " is refused in some state", refused > 0, true);
        }
        Check.end();
    }

    private static Desk tables() {
        return Desk.of("t a b", "1;x", "2;", "-3;z").with("u c", "5");
    }

    private static Desk full() {
        Desk desk = Desk.of("t a b").with("u c").with("x c").with("y c");
        for (int i = 0; i < 16; i++) {
            desk.record(0, i + ";x");
        }
        return desk;
    }

    private static Desk dropped() {
        Desk desk = done(full(), true, TEMPLATE);
        desk.drop(0, 15);
        desk.drop(0, 2);
        return desk;
    }

    private static Desk done(Desk desk, boolean merged, String template) {
        desk.compile(template);
        if (merged) {
            desk.merge();
        }
        return desk;
    }

    private static void typing() {
        int[] counts = {0, 9, -1};
        for (int n : counts) {
            CALLS.add(new Call("type " + n, false, d -> d.type(0x6867666564636261L, n)));
        }
    }

    private static void tableCalls() {
        String[] texts = {"", "t", "t a", "t b c", "q ", "q a a", "q a b c d e f g", "each a", "q r"};
        for (String text : texts) {
            CALLS.add(new Call("table " + text, true, d -> d.table(text)));
        }
    }

    private static void recordCalls() {
        int[] nowhere = {-1, 4};
        for (int table : nowhere) {
            CALLS.add(new Call("record of " + table, true, d -> d.record(table, "8;9")));
        }
        String[] texts = {"8", "8;9;10", "8;}", "8;9", "}", "8;abcdefghijklm"};
        for (String text : texts) {
            CALLS.add(new Call("record " + text, true, d -> d.record(0, text)));
        }
    }

    private static void cellCalls() {
        int[][] nowhere = {{-1, 0, 0}, {4, 0, 0}, {0, -1, 0}, {0, 16, 0}, {0, 15, 0}, {0, 0, -1}, {0, 0, 2}};
        for (int[] at : nowhere) {
            String where = at[0] + " " + at[1] + " " + at[2];
            CALLS.add(new Call("cell " + where, true, d -> d.cell(at[0], at[1], at[2], "8")));
            CALLS.add(new Call("number " + where, false, d -> d.number(at[0], at[1], at[2])));
        }
        int[][] noRecords = {{-1, 0}, {4, 0}, {0, -1}, {0, 15}, {0, 16}, {1, 1}};
        for (int[] at : noRecords) {
            CALLS.add(new Call("drop " + at[0] + " " + at[1], false, d -> d.drop(at[0], at[1])));
        }
        String[] texts = {";", "'", "}", "abcdefghijklm", "1234567890123456"};
        for (String text : texts) {
            CALLS.add(new Call("cell " + text, true, d -> d.cell(0, 0, 0, text)));
        }
        CALLS.add(new Call("number of a word", false, d -> d.number(0, 0, 1)));
    }

    private static void otherCalls() {
        CALLS.add(new Call("merge", false, d -> d.merge()));
        int[] bytes = {-1, 0, 4, 4000};
        for (int i : bytes) {
            CALLS.add(new Call("out " + i, false, d -> d.out(i)));
        }
        String[] names = {"", "nope", "v", "w", "let", "abcdefghi", "a"};
        for (String name : names) {
            CALLS.add(new Call("variable " + name, true, d -> d.variable(name)));
        }
        int[] whats = {-1, 5};
        for (int what : whats) {
            CALLS.add(new Call("about " + what, false, d -> d.about(what)));
        }
    }

    /** Whether the call is refused in that state; if so, both desks must be alike behind it. */
    private static boolean isRefused(State state, Call call) {
        boolean refused = isRefused(state, call, "");
        if (!call.takesText) {
            isRefused(state, call, "begun");
        }
        return refused;
    }

    private static boolean isRefused(State state, Call call, String begun) {
        Desk desk = state.desk.get().write(begun);
        String answer = call.call.apply(desk);
        if (!answer.startsWith("throws.") && !answer.equals("false")) {
            return false;
        }
        Desk other = state.desk.get().write(begun);
        String what = state.name + ", then " + call.name + " (" + answer + "), then ";
        if (begun.isEmpty()) {
            Check.same(what + "v", desk.variable("v"), other.variable("v"));
            Check.same(what + "w", desk.variable("w"), other.variable("w"));
        }
        Check.same(what + "the next calls", nextCalls(desk), nextCalls(other));
        return true;
    }

    private static String nextCalls(Desk desk) {
        StringBuilder answers = new StringBuilder();
        for (int what = 0; what <= 4; what++) {
            answers.append(desk.about(what)).append(' ');
        }
        answers.append(desk.output()).append(' ').append(desk.out(0)).append('\n');
        for (int record = 0; record < 4; record++) {
            answers.append(desk.number(0, record, 0)).append(' ').append(desk.number(0, record, 1)).append(' ');
        }
        answers.append(desk.number(1, 0,
                0)).append(' ').append(desk.merge()).append(' ').append(desk.output()).append('\n');
        answers.append(desk.merged(" behind")).append(desk.about(3)).append('\n');
        answers.append(desk.merged("{each t}{a},{b};{end}{count(t)}")).append('\n');
        answers.append(desk.merged("{each u}{c};{end}{count(u)}")).append('\n');
        answers.append(desk.record(0, "p;q")).append(' ').append(desk.record(1, "r")).append(' ');
        answers.append(desk.table("q r")).append(' ').append(desk.table("t a b")).append(' ').append(desk.drop(0,
                0)).append('\n');
        answers.append(desk.merged("{each t}{a},{b};{end}{each u}{c};{end}{let v=1}"));
        answers.append(' ').append(desk.variable("v"));
        return answers.toString();
    }
}
