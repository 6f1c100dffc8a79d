import java.nio.charset.StandardCharsets;
import java.util.function.Supplier;

/** A MergeDesk that takes texts as Strings and tells each answer, or what was thrown, as a String. */
final class Desk {
    static final String STATE = "throws.IllegalStateException";
    static final String ARGUMENT = "throws.IllegalArgumentException";
    static final String INDEX = "throws.IndexOutOfBoundsException";
    static final String UNSUPPORTED = "throws.UnsupportedOperationException";
    static final String NONE = "throws.NoSuchElementException";

    private final MergeDesk desk = new MergeDesk();

    static String tell(Supplier<Object> call) {
        try {
            return String.valueOf(call.get());
        } catch (RuntimeException e) {
            return "throws." + e.getClass().getSimpleName();
        }
    }

    MergeDesk raw() {
        return desk;
    }

    Desk write(String text) {
        byte[] bytes = text.getBytes(StandardCharsets.ISO_8859_1);
        for (int from = 0; from < bytes.length; from += 8) {
            int n = Math.min(8, bytes.length - from);
            long w = 0;
            for (int i = 0; i < n; i++) {
                w |= (bytes[from + i] & 0xFFL) << (8 * i);
            }
            Check.same("type of part of " + text, desk.type(w, n), true);
        }
        return this;
    }

    String table(String text) {
        write(text);
        return tell(() -> desk.table());
    }

    String record(int table, String text) {
        write(text);
        return tell(() -> desk.record(table));
    }

    String cell(int table, int record, int column, String text) {
        write(text);
        return tell(() -> {
            desk.cell(table, record, column);
            return "";
        });
    }

    String drop(int table, int record) {
        return tell(() -> {
            desk.drop(table, record);
            return "";
        });
    }

    int compile(String text) {
        return write(text).raw().compile();
    }

    String merge() {
        return tell(() -> desk.merge());
    }

    String variable(String name) {
        write(name);
        return tell(() -> desk.variable());
    }

    String about(int what) {
        return tell(() -> desk.about(what));
    }

    String number(int table, int record, int column) {
        return tell(() -> desk.number(table, record, column));
    }

    String out(int i) {
        return tell(() -> desk.out(i));
    }

    String output() {
        StringBuilder all = new StringBuilder();
        for (int i = 0; i < desk.size(); i++) {
            all.append((char) desk.out(i));
        }
        return all.toString();
    }

    /** What a template comes to: the text, or the fault's answer, a space, and what came out before. */
    String merged(String template) {
        int wrong = compile(template);
        if (wrong != 0) {
            return "compile " + wrong;
        }
        int answer = desk.merge();
        return answer >= 0 ? output() : answer + " " + output();
    }

    /** The tables that most tests use. */
    static Desk shop() {
        Desk shop = new Desk();
        shop.table("item no name price");
        shop.table("line no qty");
        shop.table("empty x");
        shop.record(0, "1;Pen;150");
        shop.record(0, "2;Ink;2999");
        shop.record(0, "3;;-5");
        shop.record(1, "2;3");
        shop.record(1, "1;10");
        shop.record(1, "2;1");
        shop.record(1, "9;9");
        return shop;
    }
}
