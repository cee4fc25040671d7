import java.util.NoSuchElementException;

/**
 * Tables that tell which line each address of a program comes from, as short
 * programs of a small machine: running them, writing them, looking up in them.
 */
public final class LinePrograms {

    private static final int MOST_BYTES = 600;
    private static final int MOST_ROWS = 90;
    private static final int MOST_ENTRIES = 60;
    private static final int MOST_GROUPS = 5;
    private static final int GREATEST = 2147483647;
    private static final int LEAST = -2147483648;

    // What a row tells, by the numbers of the face; an entry tells the first five, in the same order.
    private static final int ADDRESS = 0;
    private static final int FILE = 1;
    private static final int LINE = 2;
    private static final int COLUMN = 3;
    private static final int STATEMENT = 4;
    private static final int BLOCK = 5;
    private static final int LAST = 6;
    private static final int ROW_WIDTH = 7;
    private static final int ENTRY_WIDTH = 5;

    private static final int EXTENDED = 0;
    private static final int COPY = 1;
    private static final int ADD_ADDRESS = 2;
    private static final int ADD_LINE = 3;
    private static final int SET_FILE = 4;
    private static final int SET_COLUMN = 5;
    private static final int TURN_STATEMENT = 6;
    private static final int SET_BLOCK = 7;
    private static final int ADD_STEP = 8;
    private static final int ADD_TWO_BYTES = 9;

    private static final int EXTENDED_END = 1;
    private static final int END_LENGTH = 1;
    private static final int EXTENDED_ADDRESS = 2;
    private static final int ADDRESS_LENGTH = 5;

    private static final int FIRST_FILE = 1;
    private static final int FIRST_LINE = 1;
    private static final int FIRST_COLUMN = 0;

    private Header head;
    private Bytes program;
    private Rows rows;
    private final Table table;

    // What a call makes goes here first, so that a call that throws changes nothing.
    private Bytes draftProgram;
    private Rows draftRows;

    public LinePrograms() {
        head = new Header(13, 14, -5, 1);
        program = new Bytes();
        draftProgram = new Bytes();
        rows = new Rows();
        draftRows = new Rows();
        table = new Table();
    }

    public boolean header(int base, int range, int low, int start) {
        if (!isHeader(base, range, low, start)) {
            return false;
        }
        head = new Header(base, range, low, start);
        return true;
    }

    public int put(int b) throws IllegalStateException {
        program.append(b);
        return program.size;
    }

    public int clear() {
        int had = program.size;
        program.size = 0;
        return had;
    }

    public int byteAt(int i) {
        return i >= 0 && i < program.size ? program.get(i) : -1;
    }

    public int run() throws IndexOutOfBoundsException, IllegalArgumentException, ArithmeticException,
            UnsupportedOperationException, IllegalStateException, NoSuchElementException {
        draftRows.size = 0;
        new Machine(head, program, draftRows).runAll();
        Rows old = rows;
        rows = draftRows;
        draftRows = old;
        return rows.size;
    }

    public int row(int i, int what) throws IndexOutOfBoundsException {
        if (i < 0 || i >= rows.size || what < 0 || what >= ROW_WIDTH) {
            throw new IndexOutOfBoundsException("no such row, or nothing that a row tells");
        }
        return rows.get(i, what);
    }

    public int find(int address) {
        for (int i = 0; i + 1 < rows.size; i++) {
            if (rows.get(i, LAST) == 0 && rows.get(i, ADDRESS) <= address && rows.get(i + 1, ADDRESS) > address) {
                return i;
            }
        }
        return -1;
    }

    public int entry(int address, int file, int line, int column, int statement)
            throws IllegalArgumentException, IllegalStateException {
        if (address < 0 || file < 0 || line < 0 || column < 0) {
            throw new IllegalArgumentException("a number is below 0");
        }
        if (statement != 0 && statement != 1) {
            throw new IllegalArgumentException("the statement is not 0 or 1");
        }
        if (table.size > 0 && address <= table.lastAddress()) {
            throw new IllegalArgumentException("the address is not above the one before");
        }
        if (table.size >= MOST_ENTRIES) {
            throw new IllegalStateException("the table is full");
        }
        table.append(address, file, line, column, statement);
        return table.size;
    }

    public int write(int end) throws NoSuchElementException, IllegalArgumentException, IllegalStateException {
        if (table.size == 0) {
            throw new NoSuchElementException("the table has no entries");
        }
        if (end < table.lastAddress()) {
            throw new IllegalArgumentException("the end is below the last entry's address");
        }
        draftProgram.size = 0;
        new Writer(head, draftProgram).writeAll(table, end);
        Bytes old = program;
        program = draftProgram;
        draftProgram = old;
        table.size = 0;
        return program.size;
    }

    public int count(int what) {
        switch (what) {
            case 0:
                return program.size;
            case 1:
                return rows.size;
            case 2:
                return table.size;
            default:
                return -1;
        }
    }

    private static boolean isHeader(int base, int range, int low, int start) {
        return base >= 10 && base <= 20
                && range >= 1 && range <= 30
                && low >= -20 && low <= 0
                && (start == 0 || start == 1)
                && low + range > 0;
    }

    /** BASE, RANGE, LOW and START as the document allows them, and the STEP that follows from them. */
    private static final class Header {
        final int base;
        final int range;
        final int low;
        final int start;
        final int step;

        Header(int base, int range, int low, int start) {
            this.base = base;
            this.range = range;
            this.low = low;
            this.start = start;
            this.step = (255 - base) / range;
        }
    }

    /** The bytes of a program, each as 0 .. 255. */
    private static final class Bytes {
        private final int[] values = new int[MOST_BYTES];
        int size = 0;

        int get(int i) {
            return values[i];
        }

        void append(int b) {
            if (size >= MOST_BYTES) {
                throw new IllegalStateException("the program is full");
            }
            values[size] = b & 255;
            size++;
        }
    }

    /** The rows that a run makes, one behind the other. */
    private static final class Rows {
        private final int[] values = new int[MOST_ROWS * ROW_WIDTH];
        int size = 0;

        int get(int i, int what) {
            return values[i * ROW_WIDTH + what];
        }

        void set(int i, int what, int value) {
            values[i * ROW_WIDTH + what] = value;
        }
    }

    /** The entries of a table, one behind the other. */
    private static final class Table {
        private final int[] values = new int[MOST_ENTRIES * ENTRY_WIDTH];
        int size = 0;

        int get(int i, int what) {
            return values[i * ENTRY_WIDTH + what];
        }

        int lastAddress() {
            return get(size - 1, ADDRESS);
        }

        void append(int address, int file, int line, int column, int statement) {
            int from = size * ENTRY_WIDTH;
            values[from + ADDRESS] = address;
            values[from + FILE] = file;
            values[from + LINE] = line;
            values[from + COLUMN] = column;
            values[from + STATEMENT] = statement;
            size++;
        }
    }

    /** Reads the bytes and numbers of a program from its first byte on. */
    private static final class Reader {
        private final Bytes program;
        private int at = 0;

        Reader(Bytes program) {
            this.program = program;
        }

        int bytesLeft() {
            return program.size - at;
        }

        int nextByte() {
            if (at >= program.size) {
                throw new IndexOutOfBoundsException("the program ends inside of an instruction");
            }
            int b = program.get(at);
            at++;
            return b;
        }

        int nextUnsigned() {
            return nextNumber(false);
        }

        int nextSigned() {
            return nextNumber(true);
        }

        long nextFixed(int length) {
            long number = 0;
            for (int i = 0; i < length; i++) {
                number |= (long) nextByte() << (8 * i);
            }
            return number;
        }

        /** Passes over bytes that mean nothing; the caller has seen that they are there. */
        void skip(int length) {
            at += length;
        }

        private int nextNumber(boolean signed) {
            long bits = 0;
            for (int group = 0; group < MOST_GROUPS; group++) {
                int b = nextByte();
                bits |= (long) (b & 127) << (7 * group);
                if (b < 128) {
                    boolean negative = signed && (b & 64) != 0;
                    return fitting(negative ? bits - (128L << (7 * group)) : bits);
                }
            }
            throw new IllegalArgumentException("a number has more than five bytes");
        }

        // The limits of both kinds are an int's: bits without a sign are never below 0.
        private static int fitting(long number) {
            if (number < LEAST || number > GREATEST) {
                throw new IllegalArgumentException("a number is too big");
            }
            return (int) number;
        }
    }

    /** The machine: runs one program once, into rows that are empty at first. */
    private static final class Machine {
        private final Header head;
        private final Reader reader;
        private final Rows rows;
        private int address;
        private int file;
        private int line;
        private int column;
        private int statement;
        private int block;
        private int leastAddress;
        private boolean ended;

        Machine(Header head, Bytes program, Rows rows) {
            this.head = head;
            this.reader = new Reader(program);
            this.rows = rows;
        }

        void runAll() {
            beginAnew();
            // Each instruction has a byte at least, so that there are never more of them than bytes.
            for (int done = 0; done < MOST_BYTES && reader.bytesLeft() > 0; done++) {
                ended = false;
                doInstruction(reader.nextByte());
            }
            if (!ended) {
                throw new NoSuchElementException("behind the last END there are instructions");
            }
        }

        private void beginAnew() {
            address = 0;
            file = FIRST_FILE;
            line = FIRST_LINE;
            column = FIRST_COLUMN;
            statement = head.start;
            block = 0;
            leastAddress = 0;
            ended = true;
        }

        private void doInstruction(int code) {
            if (code >= head.base) {
                doSpecial(code - head.base);
                return;
            }
            switch (code) {
                case EXTENDED:
                    doExtended();
                    break;
                case COPY:
                    makeRow();
                    break;
                case ADD_ADDRESS:
                    addToAddress(reader.nextUnsigned());
                    break;
                case ADD_LINE:
                    addToLine(reader.nextSigned());
                    break;
                case SET_FILE:
                    file = reader.nextUnsigned();
                    break;
                case SET_COLUMN:
                    column = reader.nextUnsigned();
                    break;
                case TURN_STATEMENT:
                    statement = 1 - statement;
                    break;
                case SET_BLOCK:
                    block = 1;
                    break;
                case ADD_STEP:
                    addToAddress(head.step);
                    break;
                case ADD_TWO_BYTES:
                    addToAddress(reader.nextFixed(2));
                    break;
                default:
                    reader.nextUnsigned();
                    break;
            }
        }

        private void doSpecial(int k) {
            addToLine(head.low + k % head.range);
            addToAddress(k / head.range);
            makeRow();
        }

        private void doExtended() {
            int length = reader.nextUnsigned();
            if (length > reader.bytesLeft()) {
                throw new IndexOutOfBoundsException("the program ends inside of an instruction");
            }
            if (length == 0) {
                throw new IllegalArgumentException("an instruction of no bytes");
            }
            int what = reader.nextByte();
            switch (what) {
                case 0:
                    throw new IllegalArgumentException("an instruction that says 0");
                case EXTENDED_END:
                    needLength(length, END_LENGTH);
                    appendRow(1);
                    beginAnew();
                    break;
                case EXTENDED_ADDRESS:
                    needLength(length, ADDRESS_LENGTH);
                    setAddress(reader.nextFixed(ADDRESS_LENGTH - 1));
                    break;
                default:
                    reader.skip(length - 1);
                    break;
            }
        }

        private static void needLength(int length, int due) {
            if (length != due) {
                throw new IllegalArgumentException("an instruction of another length");
            }
        }

        private void addToLine(int more) {
            long sum = (long) line + more;
            if (sum < 0 || sum > GREATEST) {
                throw new ArithmeticException("the line is out of its limits");
            }
            line = (int) sum;
        }

        private void addToAddress(long more) {
            setAddress(address + more);
        }

        private void setAddress(long wanted) {
            if (wanted > GREATEST) {
                throw new ArithmeticException("the address is too big");
            }
            address = (int) wanted;
        }

        private void makeRow() {
            appendRow(0);
            block = 0;
        }

        private void appendRow(int last) {
            if (address < leastAddress) {
                throw new UnsupportedOperationException("an address is below the one before");
            }
            if (rows.size >= MOST_ROWS) {
                throw new IllegalStateException("there are too many rows");
            }
            int i = rows.size;
            rows.set(i, ADDRESS, address);
            rows.set(i, FILE, file);
            rows.set(i, LINE, line);
            rows.set(i, COLUMN, column);
            rows.set(i, STATEMENT, statement);
            rows.set(i, BLOCK, block);
            rows.set(i, LAST, last);
            rows.size++;
            leastAddress = address;
        }
    }

    /** Writes one table as a program, into bytes that are empty at first. */
    private static final class Writer {
        private final Header head;
        private final Bytes out;
        private int address = 0;
        private int file = FIRST_FILE;
        private int line = FIRST_LINE;
        private int column = FIRST_COLUMN;
        private int statement;

        Writer(Header head, Bytes out) {
            this.head = head;
            this.out = out;
            this.statement = head.start;
        }

        void writeAll(Table table, int end) {
            writeStart(table.get(0, ADDRESS));
            for (int i = 0; i < table.size; i++) {
                writeFile(table.get(i, FILE));
                writeColumn(table.get(i, COLUMN));
                writeStatement(table.get(i, STATEMENT));
                writeMove(table.get(i, ADDRESS), table.get(i, LINE));
            }
            writeEnd(end);
        }

        private void writeStart(int first) {
            out.append(EXTENDED);
            out.append(ADDRESS_LENGTH);
            out.append(EXTENDED_ADDRESS);
            for (int i = 0; i < ADDRESS_LENGTH - 1; i++) {
                out.append(first >> (8 * i));
            }
            address = first;
        }

        private void writeFile(int wanted) {
            if (wanted != file) {
                out.append(SET_FILE);
                writeUnsigned(wanted);
                file = wanted;
            }
        }

        private void writeColumn(int wanted) {
            if (wanted != column) {
                out.append(SET_COLUMN);
                writeUnsigned(wanted);
                column = wanted;
            }
        }

        private void writeStatement(int wanted) {
            if (wanted != statement) {
                out.append(TURN_STATEMENT);
                statement = wanted;
            }
        }

        // Addresses and lines are never below 0, so that their differences are ints.
        private void writeMove(int toAddress, int toLine) {
            int moreLine = toLine - line;
            if (moreLine < head.low || moreLine >= head.low + head.range) {
                out.append(ADD_LINE);
                writeSigned(moreLine);
                moreLine = 0;
            }
            writeSpecial(toAddress - address, moreLine);
            address = toAddress;
            line = toLine;
        }

        private void writeSpecial(int moreAddress, int moreLine) {
            int rest = moreAddress;
            if (!isByte(special(rest, moreLine))) {
                if (rest >= head.step && isByte(special(rest - head.step, moreLine))) {
                    out.append(ADD_STEP);
                    rest -= head.step;
                } else {
                    out.append(ADD_ADDRESS);
                    writeUnsigned(rest);
                    rest = 0;
                }
            }
            out.append((int) special(rest, moreLine));
        }

        private long special(int moreAddress, int moreLine) {
            return head.base + moreLine - head.low + (long) head.range * moreAddress;
        }

        private static boolean isByte(long code) {
            return code <= 255;
        }

        private void writeEnd(int end) {
            if (end != address) {
                out.append(ADD_ADDRESS);
                writeUnsigned(end - address);
            }
            out.append(EXTENDED);
            out.append(END_LENGTH);
            out.append(EXTENDED_END);
        }

        private void writeUnsigned(int number) {
            int rest = number;
            for (int group = 0; group < MOST_GROUPS && rest > 127; group++) {
                out.append(rest & 127 | 128);
                rest >>= 7;
            }
            out.append(rest);
        }

        // One byte is enough once bit 6 tells all the higher ones.
        private void writeSigned(int number) {
            int rest = number;
            for (int group = 0; group < MOST_GROUPS && (rest < -64 || rest > 63); group++) {
                out.append(rest & 127 | 128);
                rest >>= 7;
            }
            out.append(rest & 127);
        }
    }
}
