import java.util.NoSuchElementException;

/**
 * A desk for mail merge: tables of records, and a template that is compiled and merged with them.
 *
 * <p>All rows are made once, with the object or its table, so that compiling and merging make no
 * object at all, however often they are called.
 */
public final class MergeDesk {
    private static final int TEXT_LIMIT = 600;

    private final Bytes text;
    private final Tables tables;
    private final Program program;
    private final Compiler compiler;
    private final Merger merger;

    public MergeDesk() {
        text = new Bytes(TEXT_LIMIT);
        tables = new Tables();
        program = new Program();
        compiler = new Compiler(text, program);
        merger = new Merger(tables, program);
    }

    public boolean type(long w, int n) {
        if (n < 1 || n > 8 || text.length() + n > TEXT_LIMIT) {
            return false;
        }
        for (int i = 0; i < n; i++) {
            text.add((int) (w >>> (8 * i)));
        }
        return true;
    }

    public int table() throws IllegalArgumentException, UnsupportedOperationException {
        boolean fits = tables.readHeading(text);
        text.clear();
        if (!fits) {
            throw new IllegalArgumentException();
        }
        if (tables.isFull()) {
            throw new UnsupportedOperationException();
        }
        return tables.addTable();
    }

    public int record(int table)
            throws IndexOutOfBoundsException, IllegalArgumentException, UnsupportedOperationException {
        Table owner = tables.get(table);
        boolean fits = owner != null && owner.readRecord(text);
        text.clear();
        if (owner == null) {
            throw new IndexOutOfBoundsException();
        }
        if (!fits) {
            throw new IllegalArgumentException();
        }
        if (owner.isFull()) {
            throw new UnsupportedOperationException();
        }
        return owner.addRecord();
    }

    public void cell(int table, int record, int column)
            throws IndexOutOfBoundsException, IllegalArgumentException {
        Table owner = tables.get(table);
        boolean there = owner != null && owner.hasCell(record, column);
        boolean fits = there && owner.readCell(text);
        text.clear();
        if (!there) {
            throw new IndexOutOfBoundsException();
        }
        if (!fits) {
            throw new IllegalArgumentException();
        }
        owner.setCell(record, column);
    }

    public void drop(int table, int record) throws IndexOutOfBoundsException {
        Table owner = tables.get(table);
        if (owner == null || !owner.hasRecord(record)) {
            throw new IndexOutOfBoundsException();
        }
        owner.removeRecord(record);
    }

    public int compile() {
        int wrong = compiler.translate();
        text.clear();
        if (wrong == Compiler.NOWHERE) {
            program.finish();
            return 0;
        }
        program.clear();
        return wrong + 1;
    }

    public int merge() throws IllegalStateException {
        if (!program.isFinished()) {
            throw new IllegalStateException();
        }
        return merger.run();
    }

    public int size() {
        return merger.output().length();
    }

    public int out(int i) throws IndexOutOfBoundsException {
        if (i < 0 || i >= merger.output().length()) {
            throw new IndexOutOfBoundsException();
        }
        return merger.output().get(i);
    }

    public long variable() throws NoSuchElementException {
        long name = text.nameIn(0, text.length());
        text.clear();
        Scope scope = merger.scope();
        int found = scope.findVariable(name);
        if (found < 0 || !scope.variables().isNumber(found)) {
            throw new NoSuchElementException();
        }
        return scope.variables().numberAt(found);
    }

    public int about(int what) throws IndexOutOfBoundsException {
        switch (what) {
            case 0:
                return tables.count();
            case 1:
                return tables.countRecords();
            case 2:
                return program.tags();
            case 3:
                return merger.done();
            case 4:
                return merger.scope().countVariables();
            default:
                throw new IndexOutOfBoundsException();
        }
    }

    public long number(int table, int record, int column)
            throws IndexOutOfBoundsException, NoSuchElementException {
        Table owner = tables.get(table);
        if (owner == null || !owner.hasCell(record, column)) {
            throw new IndexOutOfBoundsException();
        }
        int place = owner.placeOf(record, column);
        if (!owner.cells().isNumber(place)) {
            throw new NoSuchElementException();
        }
        return owner.cells().numberAt(place);
    }

    /** A row of bytes with a limit, and what is read in it: names, digits, words. */
    private static final class Bytes {
        static final int NAME_LIMIT = 8;
        static final int DIGIT_LIMIT = 15;
        static final int WORD_LIMIT = 12;
        static final int QUOTE = 39;

        /** A name is its letters in one long; no name is 0. */
        static final long NO_NAME = 0;
        static final long EACH = 0x65616368L;
        static final long END = 0x656E64L;
        static final long IF = 0x6966L;
        static final long ELSE = 0x656C7365L;
        static final long LET = 0x6C6574L;

        private final byte[] row;
        private int length;

        Bytes(int limit) {
            row = new byte[limit];
            length = 0;
        }

        int length() {
            return length;
        }

        void clear() {
            length = 0;
        }

        boolean add(int b) {
            if (length >= row.length) {
                return false;
            }
            row[length] = (byte) b;
            length++;
            return true;
        }

        /** The byte at i, 0 .. 255, or -1 where there is none. */
        int get(int i) {
            return i < 0 || i >= length ? -1 : row[i] & 0xFF;
        }

        static boolean isLetter(int b) {
            return b >= 'a' && b <= 'z';
        }

        static boolean isDigit(int b) {
            return b >= '0' && b <= '9';
        }

        static boolean isWordByte(int b) {
            return b >= 32 && b <= 126 && b != ';' && b != QUOTE && b != '}';
        }

        static boolean isReserved(long name) {
            return name == EACH || name == END || name == IF || name == ELSE || name == LET;
        }

        int lettersFrom(int from, int end) {
            int at = from;
            while (at < end && isLetter(get(at))) {
                at++;
            }
            return at - from;
        }

        int digitsFrom(int from, int end) {
            int at = from;
            while (at < end && isDigit(get(at))) {
                at++;
            }
            return at - from;
        }

        int wordBytesFrom(int from, int end) {
            int at = from;
            while (at < end && isWordByte(get(at))) {
                at++;
            }
            return at - from;
        }

        /** The letters as one long, also those of a reserved word; NO_NAME if none or too many. */
        long lettersIn(int from, int count) {
            if (count < 1 || count > NAME_LIMIT) {
                return NO_NAME;
            }
            long packed = 0;
            for (int i = 0; i < count; i++) {
                packed = packed << 8 | get(from + i);
            }
            return packed;
        }

        /** The name that the whole stretch is, or NO_NAME. */
        long nameIn(int from, int end) {
            int letters = lettersFrom(from, end);
            long name = lettersIn(from, letters);
            return from + letters != end || isReserved(name) ? NO_NAME : name;
        }

        long digitsIn(int from, int count) {
            long value = 0;
            for (int i = 0; i < count; i++) {
                value = 10 * value + (get(from + i) - '0');
            }
            return value;
        }
    }

    /** A row of values; a word's bytes are held in two longs, so that values are copied, not made. */
    private static final class Values {
        private static final int NUMBER = -1;

        private final int[] sizes;
        private final long[] firsts;
        private final long[] others;

        Values(int count) {
            sizes = new int[count];
            firsts = new long[count];
            others = new long[count];
        }

        boolean isNumber(int i) {
            return sizes[i] == NUMBER;
        }

        long numberAt(int i) {
            return firsts[i];
        }

        int lengthAt(int i) {
            return sizes[i];
        }

        int byteAt(int i, int k) {
            long half = k < 8 ? firsts[i] : others[i];
            return (int) (half >>> (8 * (k & 7))) & 0xFF;
        }

        boolean isTrue(int i) {
            return isNumber(i) ? firsts[i] != 0 : sizes[i] > 0;
        }

        boolean isSame(int i, Values from, int k) {
            return sizes[i] == from.sizes[k] && firsts[i] == from.firsts[k] && others[i] == from.others[k];
        }

        void setNumber(int i, long value) {
            sizes[i] = NUMBER;
            firsts[i] = value;
            others[i] = 0;
        }

        void setWord(int i, Bytes text, int from, int length) {
            sizes[i] = length;
            firsts[i] = 0;
            others[i] = 0;
            for (int k = 0; k < length; k++) {
                long b = (long) text.get(from + k) << (8 * (k & 7));
                if (k < 8) {
                    firsts[i] |= b;
                } else {
                    others[i] |= b;
                }
            }
        }

        void copy(int i, Values from, int k) {
            sizes[i] = from.sizes[k];
            firsts[i] = from.firsts[k];
            others[i] = from.others[k];
        }

        /** Takes the stretch as a cell; false if it is none. */
        boolean readCell(int i, Bytes text, int from, int end) {
            int sign = from < end && text.get(from) == '-' ? 1 : 0;
            int digits = text.digitsFrom(from + sign, end);
            boolean allDigits = digits > 0 && from + sign + digits == end;
            if (allDigits && digits <= Bytes.DIGIT_LIMIT) {
                long value = text.digitsIn(from + sign, digits);
                setNumber(i, sign == 1 ? -value : value);
                return true;
            }
            int length = text.wordBytesFrom(from, end);
            if (from + length != end || length > Bytes.WORD_LIMIT) {
                return false;
            }
            setWord(i, text, from, length);
            return true;
        }
    }

    /** A name, columns, and records: the cells of one record stand side by side. */
    private static final class Table {
        static final int COLUMN_LIMIT = 6;
        static final int RECORD_LIMIT = 16;

        private final long name;
        private final long[] columns;
        private final Values cells;
        private final Values draft;
        private int records;

        Table(long[] heading, int names) {
            name = heading[0];
            columns = new long[names - 1];
            for (int i = 0; i < names - 1; i++) {
                columns[i] = heading[i + 1];
            }
            cells = new Values(RECORD_LIMIT * (names - 1));
            draft = new Values(names - 1);
            records = 0;
        }

        boolean isNamed(long other) {
            return name == other;
        }

        int countRecords() {
            return records;
        }

        boolean isFull() {
            return records >= RECORD_LIMIT;
        }

        boolean hasRecord(int record) {
            return record >= 0 && record < records;
        }

        boolean hasCell(int record, int column) {
            return hasRecord(record) && column >= 0 && column < columns.length;
        }

        int findColumn(long wanted) {
            for (int i = 0; i < columns.length; i++) {
                if (columns[i] == wanted) {
                    return i;
                }
            }
            return -1;
        }

        int placeOf(int record, int column) {
            return record * columns.length + column;
        }

        Values cells() {
            return cells;
        }

        /** Reads a record as a draft, so that a text that is none leaves the cells alone. */
        boolean readRecord(Bytes text) {
            int from = 0;
            for (int i = 0; i < columns.length; i++) {
                int end = cellEnd(text, from);
                boolean last = i == columns.length - 1;
                if (last != (end == text.length()) || !draft.readCell(i, text, from, end)) {
                    return false;
                }
                from = end + 1;
            }
            return true;
        }

        private static int cellEnd(Bytes text, int from) {
            int end = from;
            while (end < text.length() && text.get(end) != ';') {
                end++;
            }
            return end;
        }

        int addRecord() {
            if (!isFull()) {
                for (int i = 0; i < columns.length; i++) {
                    cells.copy(placeOf(records, i), draft, i);
                }
                records++;
            }
            return records - 1;
        }

        boolean readCell(Bytes text) {
            return draft.readCell(0, text, 0, text.length());
        }

        void setCell(int record, int column) {
            if (hasCell(record, column)) {
                cells.copy(placeOf(record, column), draft, 0);
            }
        }

        void removeRecord(int record) {
            if (!hasRecord(record)) {
                return;
            }
            int width = columns.length;
            for (int i = record * width; i < (records - 1) * width; i++) {
                cells.copy(i, cells, i + width);
            }
            records--;
        }

        long sumOf(int column) {
            long sum = 0;
            for (int i = 0; i < records; i++) {
                if (hasCell(i, column) && cells.isNumber(placeOf(i, column))) {
                    sum += cells.numberAt(placeOf(i, column));
                }
            }
            return sum;
        }
    }

    /** The tables in the order of their numbers. */
    private static final class Tables {
        private static final int TABLE_LIMIT = 4;
        private static final int HEADING_LIMIT = Table.COLUMN_LIMIT + 1;

        private final Table[] tables;
        private final long[] heading;
        private int names;
        private int count;

        Tables() {
            tables = new Table[TABLE_LIMIT];
            heading = new long[HEADING_LIMIT];
            names = 0;
            count = 0;
        }

        int count() {
            return count;
        }

        boolean isFull() {
            return count >= TABLE_LIMIT;
        }

        Table get(int i) {
            return i < 0 || i >= count ? null : tables[i];
        }

        int find(long name) {
            for (int i = 0; i < count; i++) {
                if (tables[i].isNamed(name)) {
                    return i;
                }
            }
            return -1;
        }

        int countRecords() {
            int records = 0;
            for (int i = 0; i < count; i++) {
                records += tables[i].countRecords();
            }
            return records;
        }

        /** Reads the heading of a new table; false if it is none, or its name is taken. */
        boolean readHeading(Bytes text) {
            names = 0;
            int from = 0;
            while (from <= text.length() && names < HEADING_LIMIT) {
                int end = from + text.lettersFrom(from, text.length());
                long name = text.nameIn(from, end);
                if (name == Bytes.NO_NAME || isColumn(name)) {
                    return false;
                }
                heading[names] = name;
                names++;
                if (end == text.length()) {
                    return names > 1 && find(heading[0]) < 0;
                }
                if (text.get(end) != ' ') {
                    return false;
                }
                from = end + 1;
            }
            return false;
        }

        /** A column may have its table's name, so the heading's first name is left out. */
        private boolean isColumn(long name) {
            for (int i = 1; i < names; i++) {
                if (heading[i] == name) {
                    return true;
                }
            }
            return false;
        }

        int addTable() {
            if (!isFull() && names > 1) {
                tables[count] = new Table(heading, names);
                count++;
            }
            return count - 1;
        }
    }

    /** What a template is compiled to: instructions, each with the place that its fault would have. */
    private static final class Program {
        static final int BYTE = 0;
        static final int BEGIN = 1;
        static final int PRINT = 2;
        static final int SET = 3;
        static final int BRANCH = 4;
        static final int JUMP = 5;
        static final int LOOP = 6;
        static final int LOOP_WHERE = 7;
        static final int NEXT = 8;
        static final int FAULT = 9;
        static final int PUSH = 10;
        static final int NAME = 11;
        static final int TABLE = 12;
        static final int COLUMN = 13;
        static final int SUM = 14;
        static final int COUNT = 15;
        static final int NEED_NUMBER = 16;
        static final int NEED_WORD = 17;
        static final int NEGATE = 18;
        static final int ADD = 19;
        static final int SUBTRACT = 20;
        static final int MULTIPLY = 21;
        static final int PCT = 22;
        static final int DIV = 23;
        static final int MIN = 24;
        static final int MAX = 25;
        static final int ABS = 26;
        static final int LEN = 27;
        static final int EQ = 28;
        static final int LT = 29;

        static final int TEMPLATE_LIMIT = 500;
        /** No byte makes more than two instructions: an operator makes three, but its operand one. */
        private static final int CODE_LIMIT = 2 * TEMPLATE_LIMIT + 24;
        /** Between two constants stands at least one other byte. */
        private static final int CONSTANT_LIMIT = TEMPLATE_LIMIT / 2 + 1;

        private final int[] ops;
        private final int[] places;
        private final long[] args;
        private final Values constants;
        private int length;
        private int constantCount;
        private int tags;
        private boolean finished;

        Program() {
            ops = new int[CODE_LIMIT];
            places = new int[CODE_LIMIT];
            args = new long[CODE_LIMIT];
            constants = new Values(CONSTANT_LIMIT);
            length = 0;
            constantCount = 0;
            tags = 0;
            finished = false;
        }

        void clear() {
            length = 0;
            constantCount = 0;
            tags = 0;
            finished = false;
        }

        void finish() {
            finished = true;
        }

        boolean isFinished() {
            return finished;
        }

        int tags() {
            return tags;
        }

        void countTag() {
            tags++;
        }

        int length() {
            return length;
        }

        int opAt(int i) {
            return ops[i];
        }

        int placeAt(int i) {
            return places[i];
        }

        long argAt(int i) {
            return args[i];
        }

        Values constants() {
            return constants;
        }

        /** Adds an instruction: where it stands. */
        int emit(int op, int place, long arg) {
            if (length < CODE_LIMIT) {
                ops[length] = op;
                places[length] = place;
                args[length] = arg;
                length++;
            }
            return length - 1;
        }

        int addConstant() {
            if (constantCount < CONSTANT_LIMIT) {
                constantCount++;
            }
            return constantCount - 1;
        }

        void setArg(int i, long arg) {
            args[i] = arg;
        }

        void setOp(int i, int op) {
            ops[i] = op;
        }

        void cutTo(int newLength) {
            length = newLength;
        }
    }

    /** The functions, with what each argument must be: a letter for each, of those that Compiler has. */
    private enum Function {
        PCT("pct", "nn", Program.PCT),
        DIV("div", "nn", Program.DIV),
        MIN("min", "n", Program.MIN),
        MAX("max", "n", Program.MAX),
        ABS("abs", "n", Program.ABS),
        LEN("len", "w", Program.LEN),
        EQ("eq", "vv", Program.EQ),
        LT("lt", "nn", Program.LT),
        SUM("sum", "tc", Program.SUM),
        COUNT("count", "t", Program.COUNT);

        private static final Function[] ALL = values();

        private final long key;
        private final String kinds;
        private final int op;
        private final boolean folds;

        Function(String word, String kinds, int op) {
            long packed = 0;
            for (int i = 0; i < word.length(); i++) {
                packed = packed << 8 | word.charAt(i);
            }
            this.key = packed;
            this.kinds = kinds;
            this.op = op;
            this.folds = op == Program.MIN || op == Program.MAX;
        }

        static Function named(long name) {
            for (int i = 0; i < ALL.length; i++) {
                if (ALL[i].key == name) {
                    return ALL[i];
                }
            }
            return null;
        }

        int op() {
            return op;
        }

        /** Whether it takes any number of arguments, two at a time. */
        boolean folds() {
            return folds;
        }

        boolean takes(int count) {
            return folds ? count >= 1 : count == kinds.length();
        }

        char kindAt(int i) {
            if (folds) {
                return Compiler.A_NUMBER;
            }
            return i >= 0 && i < kinds.length() ? kinds.charAt(i) : Compiler.ANY_VALUE;
        }
    }

    /** Reads a template from the left into a program, up to the first place where it can't go on. */
    private static final class Compiler {
        static final int NOWHERE = -1;
        static final char A_NUMBER = 'n';
        static final char A_WORD = 'w';
        static final char ANY_VALUE = 'v';
        static final char TABLE_NAME = 't';
        static final char COLUMN_NAME = 'c';
        private static final int TAG_LIMIT = 120;
        private static final int BLOCK_LIMIT = 6;
        private static final int DEPTH_LIMIT = 8;
        private static final int EACH_BLOCK = 0;
        private static final int IF_BLOCK = 1;
        private static final int ELSE_BLOCK = 2;

        private final Bytes text;
        private final Program program;
        private final int[] blockKinds;
        /** Where the instruction stands that jumps to the block's end. */
        private final int[] blockJumps;
        private int open;
        private int at;
        private int end;
        private int brace;
        private int wrong;

        Compiler(Bytes text, Program program) {
            this.text = text;
            this.program = program;
            blockKinds = new int[BLOCK_LIMIT];
            blockJumps = new int[BLOCK_LIMIT];
            open = 0;
            at = 0;
            end = 0;
            brace = 0;
            wrong = NOWHERE;
        }

        /** The place of what is wrong, or NOWHERE. */
        int translate() {
            program.clear();
            open = 0;
            at = 0;
            end = Math.min(text.length(), Program.TEMPLATE_LIMIT);
            wrong = NOWHERE;
            for (int pieces = 0; pieces < Program.TEMPLATE_LIMIT && at < end; pieces++) {
                brace = at;
                boolean doubled = look(at) == '{' && look(at + 1) == '{';
                if (look(at) != '{' || doubled) {
                    emit(Program.BYTE, look(at));
                    at += doubled ? 2 : 1;
                } else if (!readTag()) {
                    return wrong;
                }
            }
            return open > 0 || text.length() > end ? end : NOWHERE;
        }

        private boolean fail(int place) {
            wrong = place;
            return false;
        }

        /** The byte at a place, or -1 at the end. */
        private int look(int place) {
            return place < end ? text.get(place) : -1;
        }

        private boolean expect(int b) {
            if (look(at) != b) {
                return fail(at);
            }
            at++;
            return true;
        }

        private int emit(int op, long arg) {
            return program.emit(op, brace, arg);
        }

        private boolean readTag() {
            if (program.tags() >= TAG_LIMIT) {
                return fail(brace);
            }
            program.countTag();
            at++;
            int letters = text.lettersFrom(at, end);
            long word = text.lettersIn(at, letters);
            if (!Bytes.isReserved(word)) {
                return readPrint();
            }
            at += letters;
            if (word == Bytes.END) {
                return readEnd();
            }
            if (word == Bytes.ELSE) {
                return readElse();
            }
            if (!expect(' ')) {
                return false;
            }
            if (word == Bytes.LET) {
                return readLet();
            }
            if (open >= BLOCK_LIMIT) {
                return fail(brace);
            }
            return word == Bytes.IF ? readIf() : readEach();
        }

        private boolean readPrint() {
            emit(Program.BEGIN, 0);
            if (!readSum(1)) {
                return false;
            }
            int places = readPlaces();
            if (places < 0) {
                return false;
            }
            boolean behind = look(at) == '<';
            int width = readWidth();
            if (width < 0 || !expect('}')) {
                return false;
            }
            emit(Program.PRINT, Printer.format(places, width, behind));
            return true;
        }

        /** P, 0 where there is none, or -1 where it is wrong. */
        private int readPlaces() {
            if (look(at) != ':') {
                return 0;
            }
            at++;
            int places = look(at) - '0';
            if (places < 1 || places > 4) {
                fail(at);
                return -1;
            }
            at++;
            return places;
        }

        /** W, 0 where there is none, or -1 where it is wrong. */
        private int readWidth() {
            if (look(at) != '>' && look(at) != '<') {
                return 0;
            }
            at++;
            int width = look(at) - '0';
            if (width < 1 || width > 9) {
                fail(at);
                return -1;
            }
            at++;
            if (!Bytes.isDigit(look(at))) {
                return width;
            }
            width = 10 * width + look(at) - '0';
            if (width > Printer.WIDTH_LIMIT) {
                fail(at);
                return -1;
            }
            at++;
            return width;
        }

        private boolean readLet() {
            emit(Program.BEGIN, 0);
            long name = readName();
            if (name == Bytes.NO_NAME || !expect('=') || !readSum(1) || !expect('}')) {
                return false;
            }
            emit(Program.SET, name);
            return true;
        }

        private boolean readIf() {
            emit(Program.BEGIN, 0);
            if (!readSum(1) || !expect('}')) {
                return false;
            }
            openBlock(IF_BLOCK, emit(Program.BRANCH, 0));
            return true;
        }

        private boolean readEach() {
            emit(Program.BEGIN, 0);
            long name = readName();
            if (name == Bytes.NO_NAME) {
                return false;
            }
            emit(Program.TABLE, name);
            boolean joined = look(at) == ' ';
            if (joined) {
                at++;
                long column = readName();
                if (column == Bytes.NO_NAME || !expect('=')) {
                    return false;
                }
                emit(Program.COLUMN, column);
                if (!readSum(1)) {
                    return false;
                }
            }
            if (!expect('}')) {
                return false;
            }
            openBlock(EACH_BLOCK, emit(joined ? Program.LOOP_WHERE : Program.LOOP, 0));
            return true;
        }

        private void openBlock(int kind, int jump) {
            if (open < BLOCK_LIMIT) {
                blockKinds[open] = kind;
                blockJumps[open] = jump;
                open++;
            }
        }

        private boolean readElse() {
            if (!expect('}')) {
                return false;
            }
            int block = open - 1;
            if (block < 0 || blockKinds[block] != IF_BLOCK) {
                return fail(brace);
            }
            int jump = emit(Program.JUMP, 0);
            program.setArg(blockJumps[block], jump + 1);
            blockKinds[block] = ELSE_BLOCK;
            blockJumps[block] = jump;
            return true;
        }

        private boolean readEnd() {
            if (!expect('}')) {
                return false;
            }
            if (open < 1) {
                return fail(brace);
            }
            open--;
            int jump = blockJumps[open];
            program.setArg(jump, program.length());
            if (blockKinds[open] == EACH_BLOCK) {
                emit(Program.NEXT, jump + 1);
            }
            return true;
        }

        private long readName() {
            int letters = text.lettersFrom(at, end);
            long name = text.lettersIn(at, letters);
            if (name == Bytes.NO_NAME || Bytes.isReserved(name)) {
                fail(at);
                return Bytes.NO_NAME;
            }
            at += letters;
            return name;
        }

        /** An EXPR: each operand is looked at before the next one is worked out. */
        private boolean readSum(int depth) {
            if (!readProduct(depth)) {
                return false;
            }
            while (at < end && (look(at) == '+' || look(at) == '-')) {
                int op = look(at) == '+' ? Program.ADD : Program.SUBTRACT;
                emit(Program.NEED_NUMBER, 0);
                at++;
                if (!readProduct(depth)) {
                    return false;
                }
                emit(Program.NEED_NUMBER, 0);
                emit(op, 0);
            }
            return true;
        }

        private boolean readProduct(int depth) {
            if (!readFactor(depth)) {
                return false;
            }
            while (at < end && look(at) == '*') {
                emit(Program.NEED_NUMBER, 0);
                at++;
                if (!readFactor(depth)) {
                    return false;
                }
                emit(Program.NEED_NUMBER, 0);
                emit(Program.MULTIPLY, 0);
            }
            return true;
        }

        private boolean readFactor(int depth) {
            int b = look(at);
            if (Bytes.isDigit(b)) {
                return readNumber();
            }
            if (b == Bytes.QUOTE) {
                return readQuoted();
            }
            if (Bytes.isLetter(b)) {
                return readNamed(depth);
            }
            if (b != '(' && b != '-' || depth >= DEPTH_LIMIT) {
                return fail(at);
            }
            at++;
            if (b == '(') {
                return readSum(depth + 1) && expect(')');
            }
            if (!readFactor(depth + 1)) {
                return false;
            }
            emit(Program.NEED_NUMBER, 0);
            emit(Program.NEGATE, 0);
            return true;
        }

        private boolean readNumber() {
            int digits = text.digitsFrom(at, end);
            if (digits > Bytes.DIGIT_LIMIT) {
                return fail(at);
            }
            int constant = program.addConstant();
            program.constants().setNumber(constant, text.digitsIn(at, digits));
            emit(Program.PUSH, constant);
            at += digits;
            return true;
        }

        private boolean readQuoted() {
            int from = at + 1;
            int length = text.wordBytesFrom(from, end);
            boolean fits = length <= Bytes.WORD_LIMIT;
            if (fits && from + length == end) {
                return fail(end);
            }
            if (!fits || look(from + length) != Bytes.QUOTE) {
                return fail(at);
            }
            int constant = program.addConstant();
            program.constants().setWord(constant, text, from, length);
            emit(Program.PUSH, constant);
            at = from + length + 1;
            return true;
        }

        private boolean readNamed(int depth) {
            long name = readName();
            if (name == Bytes.NO_NAME) {
                return false;
            }
            if (look(at) != '(') {
                emit(Program.NAME, name);
                return true;
            }
            if (depth >= DEPTH_LIMIT) {
                return fail(at);
            }
            at++;
            return readArguments(Function.named(name), depth + 1);
        }

        private boolean readArguments(Function function, int depth) {
            int code = program.length();
            for (int count = 1; count <= Program.TEMPLATE_LIMIT; count++) {
                if (!readArgument(function, count - 1, depth)) {
                    return false;
                }
                if (look(at) == ')') {
                    at++;
                    finishCall(function, count, code);
                    return true;
                }
                if (!expect(',')) {
                    return false;
                }
            }
            return fail(at);
        }

        private boolean readArgument(Function function, int i, int depth) {
            int start = at;
            int code = program.length();
            if (!readSum(depth)) {
                return false;
            }
            if (function == null) {
                return true;
            }
            char kind = function.kindAt(i);
            if (kind == TABLE_NAME) {
                turnName(Program.TABLE, start, code);
            } else if (kind == COLUMN_NAME) {
                turnName(Program.COLUMN, start, code);
            } else if (kind == A_WORD) {
                emit(Program.NEED_WORD, 0);
            } else if (kind == A_NUMBER) {
                emit(Program.NEED_NUMBER, 0);
            }
            if (function.folds() && i > 0) {
                emit(function.op(), 0);
            }
            return true;
        }

        /** A name alone becomes a table's or a column's; anything else is a fault without being worked out. */
        private void turnName(int op, int start, int code) {
            boolean single = program.length() == code + 1 && program.opAt(code) == Program.NAME;
            if (single && Bytes.isLetter(look(start))) {
                program.setOp(code, op);
            } else {
                program.cutTo(code);
                emit(Program.FAULT, Merger.NOTHING);
            }
        }

        /** A call that can't be is a fault before its arguments, so that their code is cut away. */
        private void finishCall(Function function, int count, int code) {
            if (function == null || !function.takes(count)) {
                program.cutTo(code);
                emit(Program.FAULT, Merger.NOTHING);
            } else if (!function.folds()) {
                emit(function.op(), 0);
            }
        }
    }

    /** The values that are being worked with, and all that is done with them alone. */
    private static final class Reckoner {
        private static final long NUMBER_LIMIT = 1000000000000000L;
        private static final long PRODUCT_LIMIT = 100000000000000000L;
        /** At each of eight depths a term, a factor and an argument may wait, and before them T and C. */
        private static final int HEIGHT_LIMIT = 32;

        private final Values values;
        private int height;

        Reckoner() {
            values = new Values(HEIGHT_LIMIT);
            height = 0;
        }

        void clear() {
            height = 0;
        }

        Values values() {
            return values;
        }

        void push(Values from, int i) {
            if (height < HEIGHT_LIMIT) {
                values.copy(height, from, i);
                height++;
            }
        }

        /** Takes the upmost value away: where it stands in the values until the next push. */
        int take() {
            if (height > 0) {
                height--;
            }
            return height;
        }

        long takeNumber() {
            return values.numberAt(take());
        }

        boolean isNumberUp() {
            return height > 0 && values.isNumber(height - 1);
        }

        long numberUp() {
            return height > 0 ? values.numberAt(height - 1) : 0;
        }

        /** Pushes the number, if it is one: the fault, or 0. */
        int give(long value) {
            if (value > NUMBER_LIMIT || value < -NUMBER_LIMIT) {
                return Merger.TOO_LARGE;
            }
            if (height < HEIGHT_LIMIT) {
                values.setNumber(height, value);
                height++;
            }
            return 0;
        }

        /** Does an instruction that needs nothing but the values: the fault, or 0. */
        int work(int op) {
            switch (op) {
                case Program.NEED_NUMBER:
                    return isNumberUp() ? 0 : Merger.WRONG_KIND;
                case Program.NEED_WORD:
                    return isNumberUp() ? Merger.WRONG_KIND : 0;
                case Program.NEGATE:
                    return give(-takeNumber());
                case Program.ABS:
                    return give(Math.abs(takeNumber()));
                case Program.LEN:
                    return give(values.lengthAt(take()));
                case Program.EQ:
                    int second = take();
                    return give(values.isSame(take(), values, second) ? 1 : 0);
                default:
                    long y = takeNumber();
                    return workTwo(op, takeNumber(), y);
            }
        }

        private int workTwo(int op, long x, long y) {
            switch (op) {
                case Program.ADD:
                    return give(x + y);
                case Program.SUBTRACT:
                    return give(x - y);
                case Program.MULTIPLY:
                    return isBeyond(x, y, NUMBER_LIMIT) ? Merger.TOO_LARGE : give(x * y);
                case Program.PCT:
                    return isBeyond(x, y, PRODUCT_LIMIT) ? Merger.TOO_LARGE : give(hundredth(x * y));
                case Program.DIV:
                    return y == 0 ? Merger.TOO_LARGE : give(x / y);
                case Program.MIN:
                    return give(Math.min(x, y));
                case Program.MAX:
                    return give(Math.max(x, y));
                default:
                    return give(x < y ? 1 : 0);
            }
        }

        /** Divides instead of multiplying, as the product may have no room in a long. */
        private static boolean isBeyond(long x, long y, long limit) {
            return x != 0 && Math.abs(y) > limit / Math.abs(x);
        }

        private static long hundredth(long product) {
            long whole = product / 100;
            long rest = Math.abs(product % 100);
            boolean up = rest > 50 || rest == 50 && (whole & 1) != 0;
            if (!up) {
                return whole;
            }
            return product < 0 ? whole - 1 : whole + 1;
        }
    }

    /** What a name stands for while merging: the open loops' records, and the variables. */
    private static final class Scope {
        private static final int LOOP_LIMIT = 6;
        /** The shortest tag that sets one has nine bytes. */
        private static final int VARIABLE_LIMIT = Program.TEMPLATE_LIMIT / 9 + 1;
        private static final int NO_COLUMN = -1;

        private final Table[] tables;
        private final int[] records;
        private final int[] columns;
        private final Values keys;
        private int open;
        private final long[] names;
        private final Values variables;
        private int count;

        Scope() {
            tables = new Table[LOOP_LIMIT];
            records = new int[LOOP_LIMIT];
            columns = new int[LOOP_LIMIT];
            keys = new Values(LOOP_LIMIT);
            open = 0;
            names = new long[VARIABLE_LIMIT];
            variables = new Values(VARIABLE_LIMIT);
            count = 0;
        }

        void clear() {
            open = 0;
            count = 0;
        }

        int countVariables() {
            return count;
        }

        Values variables() {
            return variables;
        }

        int findVariable(long name) {
            for (int i = 0; i < count; i++) {
                if (names[i] == name) {
                    return i;
                }
            }
            return -1;
        }

        void setVariable(long name, Values from, int i) {
            int found = findVariable(name);
            if (found < 0 && count < VARIABLE_LIMIT) {
                found = count;
                names[found] = name;
                count++;
            }
            if (found >= 0) {
                variables.copy(found, from, i);
            }
        }

        /** Opens a loop before its first record. */
        void openLoop(Table table) {
            if (open < LOOP_LIMIT) {
                tables[open] = table;
                records[open] = -1;
                columns[open] = NO_COLUMN;
                open++;
            }
        }

        void openLoopWhere(Table table, int column, Values from, int i) {
            openLoop(table);
            if (open > 0) {
                columns[open - 1] = column;
                keys.copy(open - 1, from, i);
            }
        }

        /** Goes to the innermost loop's next record; without one, the loop is closed: false. */
        boolean nextRecord() {
            if (open < 1) {
                return false;
            }
            int loop = open - 1;
            for (int i = records[loop] + 1; i < tables[loop].countRecords(); i++) {
                if (fitsLoop(loop, i)) {
                    records[loop] = i;
                    return true;
                }
            }
            open--;
            return false;
        }

        private boolean fitsLoop(int loop, int record) {
            Table table = tables[loop];
            int column = columns[loop];
            if (column == NO_COLUMN) {
                return true;
            }
            return table.hasCell(record, column)
                    && keys.isSame(loop, table.cells(), table.placeOf(record, column));
        }

        /** Pushes what a name stands for; false if that is nothing. */
        boolean pushNamed(long name, Reckoner reckoner) {
            for (int loop = open - 1; loop >= 0; loop--) {
                Table table = tables[loop];
                int column = table.findColumn(name);
                if (table.hasCell(records[loop], column)) {
                    reckoner.push(table.cells(), table.placeOf(records[loop], column));
                    return true;
                }
            }
            int found = findVariable(name);
            if (found >= 0) {
                reckoner.push(variables, found);
            }
            return found >= 0;
        }
    }

    /** Prints values, laid out in one row first, so that their width is known. */
    private static final class Printer {
        static final int WIDTH_LIMIT = 20;
        private static final int OUTPUT_LIMIT = 4000;
        /** A sign, sixteen digits and a point have room in it. */
        private static final int ROW_LIMIT = 24;

        private final Bytes output;
        private final byte[] row;
        /** What is laid out stands at the row's end, as digits come from the last one on. */
        private int start;

        Printer() {
            output = new Bytes(OUTPUT_LIMIT);
            row = new byte[ROW_LIMIT];
            start = ROW_LIMIT;
        }

        static long format(int places, int width, boolean behind) {
            return places << 8 | width << 1 | (behind ? 1 : 0);
        }

        static int placesOf(long format) {
            return (int) (format >> 8);
        }

        Bytes output() {
            return output;
        }

        /** Prints a value; false if a byte of it is one too many. */
        boolean putValue(Values values, int i, long format) {
            start = ROW_LIMIT;
            if (values.isNumber(i)) {
                layNumber(values.numberAt(i), placesOf(format));
            } else {
                layWord(values, i);
            }
            int width = (int) (format >> 1) & 127;
            int spaces = Math.max(0, width - (ROW_LIMIT - start));
            boolean behind = (format & 1) != 0;
            return putSpaces(behind ? 0 : spaces) && putRow() && putSpaces(behind ? spaces : 0);
        }

        private boolean putSpaces(int count) {
            for (int i = 0; i < count; i++) {
                if (!output.add(' ')) {
                    return false;
                }
            }
            return true;
        }

        private boolean putRow() {
            for (int i = start; i < ROW_LIMIT; i++) {
                if (!output.add(row[i])) {
                    return false;
                }
            }
            return true;
        }

        private void lay(int b) {
            if (start > 0) {
                start--;
                row[start] = (byte) b;
            }
        }

        private void layNumber(long value, int places) {
            long rest = Math.abs(value);
            for (int digits = 0; digits < ROW_LIMIT && (digits <= places || rest > 0); digits++) {
                if (digits == places && places > 0) {
                    lay('.');
                }
                lay('0' + (int) (rest % 10));
                rest /= 10;
            }
            if (value < 0) {
                lay('-');
            }
        }

        private void layWord(Values values, int i) {
            for (int k = values.lengthAt(i) - 1; k >= 0; k--) {
                lay(values.byteAt(i, k));
            }
        }
    }

    /** Does a program's instructions until its end or a fault. */
    private static final class Merger {
        static final int NOTHING = 1;
        static final int WRONG_KIND = 2;
        static final int TOO_LARGE = 3;
        static final int TOO_LONG = 4;
        static final int TOO_MANY = 5;
        private static final int DONE_LIMIT = 3000;
        /** Far above 3000 tags of at most 1000 instructions, and the bytes between them. */
        private static final int STEP_LIMIT = 100000000;

        private final Tables tables;
        private final Program program;
        private final Scope scope;
        private final Reckoner reckoner;
        private final Printer printer;
        private int at;
        private int place;
        private int done;
        private int fault;

        Merger(Tables tables, Program program) {
            this.tables = tables;
            this.program = program;
            scope = new Scope();
            reckoner = new Reckoner();
            printer = new Printer();
            at = 0;
            place = 0;
            done = 0;
            fault = 0;
        }

        Bytes output() {
            return printer.output();
        }

        Scope scope() {
            return scope;
        }

        int done() {
            return done;
        }

        /** How many bytes came out, or the fault and its place, made negative. */
        int run() {
            scope.clear();
            reckoner.clear();
            output().clear();
            at = 0;
            done = 0;
            fault = 0;
            for (int steps = 0; steps < STEP_LIMIT && fault == 0 && at < program.length(); steps++) {
                place = program.placeAt(at);
                int op = program.opAt(at);
                long arg = program.argAt(at);
                at++;
                if (op <= Program.FAULT) {
                    doStatement(op, arg);
                } else {
                    fault = doValue(op, arg);
                }
            }
            return fault == 0 ? output().length() : -(10000 * fault + place);
        }

        private void doStatement(int op, long arg) {
            switch (op) {
                case Program.BYTE:
                    fault = output().add((int) arg) ? 0 : TOO_LONG;
                    break;
                case Program.BEGIN:
                    begin();
                    break;
                case Program.PRINT:
                    print(arg);
                    break;
                case Program.SET:
                    scope.setVariable(arg, reckoner.values(), reckoner.take());
                    break;
                case Program.BRANCH:
                    at = reckoner.values().isTrue(reckoner.take()) ? at : (int) arg;
                    break;
                case Program.JUMP:
                    at = (int) arg;
                    break;
                case Program.LOOP:
                case Program.LOOP_WHERE:
                    beginLoop(op == Program.LOOP_WHERE);
                    at = (int) arg;
                    break;
                case Program.NEXT:
                    at = scope.nextRecord() ? (int) arg : at;
                    break;
                default:
                    fault = (int) arg;
                    break;
            }
        }

        private void begin() {
            if (done >= DONE_LIMIT) {
                fault = TOO_MANY;
            } else {
                done++;
            }
        }

        private void print(long format) {
            if (Printer.placesOf(format) > 0 && !reckoner.isNumberUp()) {
                fault = WRONG_KIND;
            } else if (!printer.putValue(reckoner.values(), reckoner.take(), format)) {
                fault = TOO_LONG;
            }
        }

        private void beginLoop(boolean joined) {
            int key = joined ? reckoner.take() : 0;
            int column = joined ? (int) reckoner.takeNumber() : 0;
            Table table = tables.get((int) reckoner.takeNumber());
            if (table == null) {
                fault = NOTHING;
            } else if (joined) {
                scope.openLoopWhere(table, column, reckoner.values(), key);
            } else {
                scope.openLoop(table);
            }
        }

        /** Does an instruction that ends with a value: the fault, or 0. */
        private int doValue(int op, long arg) {
            switch (op) {
                case Program.PUSH:
                    reckoner.push(program.constants(), (int) arg);
                    return 0;
                case Program.NAME:
                    return scope.pushNamed(arg, reckoner) ? 0 : NOTHING;
                case Program.TABLE:
                    return pushFound(tables.find(arg));
                case Program.COLUMN:
                    Table owner = tables.get((int) reckoner.numberUp());
                    return pushFound(owner == null ? -1 : owner.findColumn(arg));
                case Program.SUM:
                    int column = (int) reckoner.takeNumber();
                    Table summed = tables.get((int) reckoner.takeNumber());
                    return summed == null ? NOTHING : reckoner.give(summed.sumOf(column));
                case Program.COUNT:
                    Table counted = tables.get((int) reckoner.takeNumber());
                    return counted == null ? NOTHING : reckoner.give(counted.countRecords());
                default:
                    return reckoner.work(op);
            }
        }

        private int pushFound(int found) {
            return found < 0 ? NOTHING : reckoner.give(found);
        }
    }
}
