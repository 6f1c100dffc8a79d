import java.nio.charset.StandardCharsets;
import java.util.ArrayList;
import java.util.List;
import java.util.function.Function;

/** A MergeDesk that takes texts as Strings and tells each answer, or what was thrown, as a String. */
final class Desk {
    static final String STATE = "throws.IllegalStateException";
    static final String ARGUMENT = "throws.IllegalArgumentException";
    static final String INDEX = "throws.IndexOutOfBoundsException";
    static final String UNSUPPORTED = "throws.UnsupportedOperationException";
    static final String NONE = "throws.NoSuchElementException";

    /** Nothing is promised about an object after its 512th call, so a test that makes more is wrong. */
    private static final int CALL_LIMIT = 512;
    private static final int SHORT_OUTPUT = 40;

    private final MergeDesk desk = new MergeDesk();
    /** The calls that may have changed the desk, to be made again on a copy. */
    private final List<Function<MergeDesk, Object>> changes = new ArrayList<>();
    private int calls = 0;

    static Desk of(String heading, String... records) {
        return new Desk().with(heading, records);
    }

    /** Adds a table with its records. */
    Desk with(String heading, String... records) {
        int table = Integer.parseInt(table(heading));
        for (int i = 0; i < records.length; i++) {
            Check.same("record " + records[i], record(table, records[i]), i);
        }
        return this;
    }

    /** The tables that most tests use. */
    static Desk shop() {
        return of("item no name price", "1;Pen;150", "2;Ink;2999", "3;;-5")
                .with("line no qty", "2;3", "1;10", "2;1", "9;9")
                .with("empty x");
    }

    private static String answer(MergeDesk desk, Function<MergeDesk, Object> call) {
        try {
            return String.valueOf(call.apply(desk));
        } catch (RuntimeException e) {
            return "throws." + e.getClass().getSimpleName();
        }
    }

    private String read(Function<MergeDesk, Object> call) {
        calls++;
        if (calls == CALL_LIMIT + 1) {
            Check.same("the calls of one object", calls, "at most " + CALL_LIMIT);
        }
        return answer(desk, call);
    }

    private String change(Function<MergeDesk, Object> call) {
        changes.add(call);
        return read(call);
    }

    int callsLeft() {
        return CALL_LIMIT - calls;
    }

    /** Another desk on which the same was done, but for the calls that only tell something. */
    private MergeDesk copy() {
        MergeDesk copy = new MergeDesk();
        for (Function<MergeDesk, Object> call : changes) {
            answer(copy, call);
        }
        return copy;
    }

    MergeDesk raw() {
        return desk;
    }

    String type(long w, int n) {
        return change(d -> d.type(w, n));
    }

    Desk write(String text) {
        byte[] bytes = text.getBytes(StandardCharsets.ISO_8859_1);
        for (int from = 0; from < bytes.length; from += 8) {
            int n = Math.min(8, bytes.length - from);
            long w = 0;
            for (int i = 0; i < n; i++) {
                w |= (bytes[from + i] & 0xFFL) << (8 * i);
            }
            Check.same("type of part of " + text, type(w, n), true);
        }
        return this;
    }

    String table(String text) {
        return write(text).change(d -> d.table());
    }

    String record(int table, String text) {
        return write(text).change(d -> d.record(table));
    }

    String cell(int table, int record, int column, String text) {
        return write(text).change(d -> {
            d.cell(table, record, column);
            return "";
        });
    }

    String drop(int table, int record) {
        return change(d -> {
            d.drop(table, record);
            return "";
        });
    }

    String compile(String text) {
        return write(text).change(d -> d.compile());
    }

    String merge() {
        return change(d -> d.merge());
    }

    String size() {
        return read(d -> d.size());
    }

    String out(int i) {
        return read(d -> d.out(i));
    }

    String variable(String name) {
        return write(name).change(d -> d.variable());
    }

    String about(int what) {
        return read(d -> d.about(what));
    }

    String number(int table, int record, int column) {
        return read(d -> d.number(table, record, column));
    }

    /** All that came out; a long output is read from copies, as each byte is a call. */
    String output() {
        int size = Integer.parseInt(size());
        StringBuilder all = new StringBuilder();
        if (size <= SHORT_OUTPUT) {
            for (int i = 0; i < size; i++) {
                all.append((char) Integer.parseInt(out(i)));
            }
            return all.toString();
        }
        int readable = Math.max(1, CALL_LIMIT - changes.size());
        for (int from = 0; from < size; from += readable) {
            MergeDesk copy = copy();
            for (int i = from; i < Math.min(size, from + readable); i++) {
                all.append((char) copy.out(i));
            }
        }
        return all.toString();
    }

    /** What a template comes to: the text, or the fault's answer, a space, and what came out before. */
    String merged(String template) {
        String wrong = compile(template);
        if (!wrong.equals("0")) {
            return "compile " + wrong;
        }
        String answer = merge();
        String output = output();
        if (answer.startsWith("-") || answer.startsWith("throws.")) {
            return answer + " " + output;
        }
        Check.same("merge of " + template, answer, output.length());
        return output;
    }
}
