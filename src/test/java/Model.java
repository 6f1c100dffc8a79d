import java.math.BigInteger;
import java.util.ArrayList;
import java.util.LinkedHashMap;
import java.util.List;
import java.util.Map;
import java.util.Set;

/**
 * The document once more, written in another way: it walks a tree of the template, with Strings for
 * words, BigIntegers for numbers, and exceptions for what is wrong. Slow and plain, to compare with.
 */
final class Model {
    private static final Set<String> RESERVED = Set.of("each", "end", "if", "else", "let");
    private static final BigInteger LIMIT = BigInteger.TEN.pow(15);

    /** At this place compiling can't go on. */
    private static final class Wrong extends RuntimeException {
        private static final long serialVersionUID = 1;
        final int place;

        Wrong(int place) {
            this.place = place;
        }
    }

    private static final class Fault extends RuntimeException {
        private static final long serialVersionUID = 1;
        final int kind;

        Fault(int kind) {
            this.kind = kind;
        }
    }

    static final class Sheet {
        String name;
        List<String> columns;
        List<List<Object>> records = new ArrayList<>();
    }

    /** A tree of any kind: of a tag, a byte, or an expression. */
    private static final class Node {
        final String kind;
        final int place;
        String text = "";
        String column;
        Object value;
        int points;
        int width;
        boolean behind;
        final List<Node> parts = new ArrayList<>();
        final List<Node> body = new ArrayList<>();
        final List<Node> otherwise = new ArrayList<>();

        Node(String kind, int place) {
            this.kind = kind;
            this.place = place;
        }
    }

    final List<Sheet> sheets = new ArrayList<>();
    private List<Node> template;
    private int tags;
    StringBuilder output = new StringBuilder();
    Map<String, Object> variables = new LinkedHashMap<>();
    int done;

    // ---- tables

    static boolean isName(String text) {
        return text.matches("[a-z]{1,8}") && !RESERVED.contains(text);
    }

    static Object cellOf(String text) {
        if (text.matches("-?[0-9]{1,15}")) {
            return new BigInteger(text);
        }
        return text.matches("[ -~&&[^;'}]]{0,12}") ? text : null;
    }

    String table(String text) {
        String[] names = text.split(" ", -1);
        List<String> columns = List.of(names).subList(1, names.length);
        boolean good = names.length >= 2 && names.length <= 7 && columns.stream().distinct().count() == columns.size();
        for (String name : names) {
            good &= isName(name);
        }
        if (!good || find(names[0]) != null) {
            return Desk.ARGUMENT;
        }
        if (sheets.size() == 4) {
            return Desk.UNSUPPORTED;
        }
        Sheet sheet = new Sheet();
        sheet.name = names[0];
        sheet.columns = columns;
        sheets.add(sheet);
        return String.valueOf(sheets.size() - 1);
    }

    private Sheet find(String name) {
        for (Sheet sheet : sheets) {
            if (sheet.name.equals(name)) {
                return sheet;
            }
        }
        return null;
    }

    private boolean has(int table, int record, int column) {
        return table >= 0 && table < sheets.size() && record >= 0 && record < sheets.get(table).records.size()
                && column >= 0 && column < sheets.get(table).columns.size();
    }

    String record(int table, String text) {
        if (table < 0 || table >= sheets.size()) {
            return Desk.INDEX;
        }
        Sheet sheet = sheets.get(table);
        List<Object> cells = new ArrayList<>();
        for (String part : text.split(";", -1)) {
            cells.add(cellOf(part));
        }
        if (cells.size() != sheet.columns.size() || cells.contains(null)) {
            return Desk.ARGUMENT;
        }
        if (sheet.records.size() == 16) {
            return Desk.UNSUPPORTED;
        }
        sheet.records.add(cells);
        return String.valueOf(sheet.records.size() - 1);
    }

    String cell(int table, int record, int column, String text) {
        if (!has(table, record, column)) {
            return Desk.INDEX;
        }
        Object value = cellOf(text);
        if (value == null) {
            return Desk.ARGUMENT;
        }
        sheets.get(table).records.get(record).set(column, value);
        return "";
    }

    String drop(int table, int record) {
        if (!has(table, record, 0)) {
            return Desk.INDEX;
        }
        sheets.get(table).records.remove(record);
        return "";
    }

    String number(int table, int record, int column) {
        if (!has(table, record, column)) {
            return Desk.INDEX;
        }
        Object value = sheets.get(table).records.get(record).get(column);
        return value instanceof BigInteger ? value.toString() : Desk.NONE;
    }

    String variable(String name) {
        Object value = variables.get(name);
        return value instanceof BigInteger ? value.toString() : Desk.NONE;
    }

    String about(int what) {
        int records = sheets.stream().mapToInt(s -> s.records.size()).sum();
        int[] all = {sheets.size(), records, template == null ? 0 : tags, done, variables.size()};
        return what < 0 || what > 4 ? Desk.INDEX : String.valueOf(all[what]);
    }

    // ---- compiling

    private String text;
    private int at;
    private int openBlocks;

    int compile(String whole) {
        text = whole.substring(0, Math.min(500, whole.length()));
        at = 0;
        tags = 0;
        openBlocks = 0;
        template = null;
        try {
            List<Node> all = new ArrayList<>();
            String ended = readBody(all, "");
            if (!ended.isEmpty() || whole.length() > 500) {
                throw new Wrong(text.length());
            }
            template = all;
            return 0;
        } catch (Wrong wrong) {
            return wrong.place + 1;
        }
    }

    private char here() {
        return at < text.length() ? text.charAt(at) : '\uffff';
    }

    private void need(char c) {
        if (here() != c) {
            throw new Wrong(at);
        }
        at++;
    }

    private String letters() {
        int from = at;
        while (here() >= 'a' && here() <= 'z') {
            at++;
        }
        return text.substring(from, at);
    }

    private String name() {
        int from = at;
        String name = letters();
        if (!isName(name)) {
            throw new Wrong(from);
        }
        return name;
    }

    /** Reads up to the end of the template, or the tag that ends this body: "end" or "else". */
    private String readBody(List<Node> into, String belongsTo) {
        while (at < text.length()) {
            int brace = at;
            if (here() != '{' || text.startsWith("{{", at)) {
                Node node = new Node("byte", brace);
                node.text = String.valueOf(here());
                at += here() == '{' ? 2 : 1;
                into.add(node);
                continue;
            }
            if (tags == 120) {
                throw new Wrong(brace);
            }
            tags++;
            at++;
            int from = at;
            String word = letters();
            if (word.equals("end") || word.equals("else")) {
                need('}');
                boolean fits = word.equals("end") ? !belongsTo.isEmpty() : belongsTo.equals("if");
                if (!fits) {
                    throw new Wrong(brace);
                }
                return word;
            }
            if (!RESERVED.contains(word)) {
                at = from;
                into.add(readPrint(brace));
                continue;
            }
            need(' ');
            into.add(word.equals("let") ? readLet(brace) : readBlock(word, brace));
        }
        if (!belongsTo.isEmpty()) {
            throw new Wrong(text.length());
        }
        return "";
    }

    private Node readPrint(int brace) {
        Node node = new Node("print", brace);
        node.parts.add(sum(1));
        if (here() == ':') {
            at++;
            if (here() < '1' || here() > '4') {
                throw new Wrong(at);
            }
            node.points = here() - '0';
            at++;
        }
        if (here() == '<' || here() == '>') {
            node.behind = here() == '<';
            at++;
            if (here() < '1' || here() > '9') {
                throw new Wrong(at);
            }
            node.width = here() - '0';
            at++;
            if (Character.isDigit(here()) && here() < 128) {
                node.width = node.width * 10 + here() - '0';
                if (node.width > 20) {
                    throw new Wrong(at);
                }
                at++;
            }
        }
        need('}');
        return node;
    }

    private Node readLet(int brace) {
        Node node = new Node("let", brace);
        node.text = name();
        need('=');
        node.parts.add(sum(1));
        need('}');
        return node;
    }

    private Node readBlock(String word, int brace) {
        if (openBlocks == 6) {
            throw new Wrong(brace);
        }
        Node node = new Node(word, brace);
        if (word.equals("if")) {
            node.parts.add(sum(1));
        } else {
            node.text = name();
            if (here() == ' ') {
                at++;
                node.column = name();
                need('=');
                node.parts.add(sum(1));
            }
        }
        need('}');
        openBlocks++;
        if (readBody(node.body, word).equals("else")) {
            readBody(node.otherwise, "else part");
        }
        openBlocks--;
        return node;
    }

    private Node sum(int depth) {
        Node left = product(depth);
        while (here() == '+' || here() == '-') {
            left = both(left, depth);
        }
        return left;
    }

    private Node product(int depth) {
        Node left = factor(depth);
        while (here() == '*') {
            left = both(left, depth);
        }
        return left;
    }

    private Node both(Node left, int depth) {
        Node node = new Node("op", at);
        node.text = String.valueOf(here());
        at++;
        node.parts.add(left);
        node.parts.add(node.text.equals("*") ? factor(depth) : product(depth));
        return node;
    }

    private Node factor(int depth) {
        int from = at;
        char c = here();
        if (c >= '0' && c <= '9') {
            while (here() >= '0' && here() <= '9') {
                at++;
            }
            if (at - from > 15) {
                throw new Wrong(from);
            }
            Node node = new Node("value", from);
            node.value = new BigInteger(text.substring(from, at));
            return node;
        }
        if (c == '\'') {
            return quoted(from);
        }
        if (c >= 'a' && c <= 'z') {
            return named(from, depth);
        }
        if (c != '(' && c != '-' || depth == 8) {
            throw new Wrong(from);
        }
        at++;
        Node node = new Node(c == '(' ? "paren" : "minus", from);
        node.parts.add(c == '(' ? sum(depth + 1) : factor(depth + 1));
        if (c == '(') {
            need(')');
        }
        return node;
    }

    private Node quoted(int from) {
        int close = text.indexOf('\'', from + 1);
        String inner = text.substring(from + 1, close < 0 ? text.length() : close);
        if (!inner.matches("(?s)[ -~&&[^;'}]]{0,12}")) {
            throw new Wrong(from);
        }
        if (close < 0) {
            throw new Wrong(text.length());
        }
        at = close + 1;
        Node node = new Node("value", from);
        node.value = inner;
        return node;
    }

    private Node named(int from, int depth) {
        String name = name();
        Node node = new Node(here() == '(' ? "call" : "name", from);
        node.text = name;
        if (here() != '(') {
            return node;
        }
        if (depth == 8) {
            throw new Wrong(at);
        }
        do {
            at++;
            node.parts.add(sum(depth + 1));
        } while (here() == ',');
        need(')');
        return node;
    }

    // ---- merging

    private final List<Sheet> loopSheets = new ArrayList<>();
    private final List<Integer> loopRecords = new ArrayList<>();
    private int place;

    String merge() {
        if (template == null) {
            return Desk.STATE;
        }
        output = new StringBuilder();
        variables = new LinkedHashMap<>();
        loopSheets.clear();
        loopRecords.clear();
        done = 0;
        try {
            runAll(template);
            return String.valueOf(output.length());
        } catch (Fault fault) {
            return String.valueOf(-(10000 * fault.kind + place));
        }
    }

    private void put(String bytes) {
        for (char c : bytes.toCharArray()) {
            if (output.length() == 4000) {
                throw new Fault(4);
            }
            output.append(c);
        }
    }

    private void runAll(List<Node> nodes) {
        for (Node node : nodes) {
            place = node.place;
            if (node.kind.equals("byte")) {
                put(node.text);
                continue;
            }
            if (done == 3000) {
                throw new Fault(5);
            }
            done++;
            run(node);
        }
    }

    private void run(Node node) {
        if (node.kind.equals("print")) {
            put(shown(node, work(node.parts.get(0))));
        } else if (node.kind.equals("let")) {
            variables.put(node.text, work(node.parts.get(0)));
        } else if (node.kind.equals("if")) {
            Object value = work(node.parts.get(0));
            runAll(value.equals("") || value.equals(BigInteger.ZERO) ? node.otherwise : node.body);
        } else {
            loop(node);
        }
    }

    private static String shown(Node node, Object value) {
        String piece = value.toString();
        if (node.points > 0) {
            piece = new java.math.BigDecimal(asNumber(value), node.points).toPlainString();
        }
        String spaces = " ".repeat(Math.max(0, node.width - piece.length()));
        return node.behind ? piece + spaces : spaces + piece;
    }

    private void loop(Node node) {
        Sheet sheet = known(find(node.text));
        int column = -1;
        Object key = null;
        if (node.column != null) {
            column = sheet.columns.indexOf(node.column);
            if (column < 0) {
                throw new Fault(1);
            }
            key = work(node.parts.get(0));
        }
        for (int i = 0; i < sheet.records.size(); i++) {
            if (column < 0 || sheet.records.get(i).get(column).equals(key)) {
                loopSheets.add(0, sheet);
                loopRecords.add(0, i);
                runAll(node.body);
                loopSheets.remove(0);
                loopRecords.remove(0);
            }
        }
    }

    private static <T> T known(T found) {
        if (found == null) {
            throw new Fault(1);
        }
        return found;
    }

    private static BigInteger asNumber(Object value) {
        if (value instanceof BigInteger number) {
            return number;
        }
        throw new Fault(2);
    }

    private static BigInteger within(BigInteger value, BigInteger limit) {
        if (value.abs().compareTo(limit) > 0) {
            throw new Fault(3);
        }
        return value;
    }

    private Object work(Node node) {
        switch (node.kind) {
            case "value":
                return node.value;
            case "name":
                return lookUp(node.text);
            case "paren":
                return work(node.parts.get(0));
            case "minus":
                return asNumber(work(node.parts.get(0))).negate();
            case "op":
                BigInteger x = asNumber(work(node.parts.get(0)));
                BigInteger y = asNumber(work(node.parts.get(1)));
                return within(node.text.equals("+") ? x.add(y)
                        : node.text.equals("-") ? x.subtract(y) : x.multiply(y), LIMIT);
            default:
                return call(node);
        }
    }

    private Object lookUp(String name) {
        for (int i = 0; i < loopSheets.size(); i++) {
            int column = loopSheets.get(i).columns.indexOf(name);
            if (column >= 0) {
                return loopSheets.get(i).records.get(loopRecords.get(i)).get(column);
            }
        }
        return known(variables.get(name));
    }

    private String nameAlone(Node node) {
        if (!node.kind.equals("name")) {
            throw new Fault(1);
        }
        return node.text;
    }

    private Object call(Node node) {
        Map<String, Integer> counts = Map.of("pct", 2, "div", 2, "abs", 1, "len", 1, "eq", 2, "lt", 2, "sum", 2,
                "count", 1, "min", node.parts.size(), "max", node.parts.size());
        if (known(counts.get(node.text)) != node.parts.size()) {
            throw new Fault(1);
        }
        if (node.text.equals("sum") || node.text.equals("count")) {
            return ofTable(node);
        }
        if (node.text.equals("eq")) {
            Object first = work(node.parts.get(0));
            return flag(first.equals(work(node.parts.get(1))));
        }
        if (node.text.equals("len")) {
            if (work(node.parts.get(0)) instanceof String word) {
                return BigInteger.valueOf(word.length());
            }
            throw new Fault(2);
        }
        List<BigInteger> numbers = new ArrayList<>();
        for (Node part : node.parts) {
            numbers.add(asNumber(work(part)));
        }
        return ofNumbers(node.text, numbers);
    }

    private Object ofTable(Node node) {
        Sheet sheet = known(find(nameAlone(node.parts.get(0))));
        if (node.text.equals("count")) {
            return BigInteger.valueOf(sheet.records.size());
        }
        int column = sheet.columns.indexOf(nameAlone(node.parts.get(1)));
        if (column < 0) {
            throw new Fault(1);
        }
        BigInteger all = BigInteger.ZERO;
        for (List<Object> record : sheet.records) {
            all = record.get(column) instanceof BigInteger number ? all.add(number) : all;
        }
        return within(all, LIMIT);
    }

    private static BigInteger flag(boolean is) {
        return is ? BigInteger.ONE : BigInteger.ZERO;
    }

    private static Object ofNumbers(String name, List<BigInteger> numbers) {
        BigInteger x = numbers.get(0);
        switch (name) {
            case "abs":
                return x.abs();
            case "min":
                return numbers.stream().reduce(BigInteger::min).get();
            case "max":
                return numbers.stream().reduce(BigInteger::max).get();
            case "lt":
                return flag(x.compareTo(numbers.get(1)) < 0);
            case "div":
                if (numbers.get(1).signum() == 0) {
                    throw new Fault(3);
                }
                return x.divide(numbers.get(1));
            default:
                BigInteger product = within(x.multiply(numbers.get(1)), BigInteger.TEN.pow(17));
                return new java.math.BigDecimal(product, 2).setScale(0, java.math.RoundingMode.HALF_EVEN)
                        .toBigInteger();
        }
    }
}
