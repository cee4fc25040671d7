import java.math.BigInteger;
import java.util.ArrayList;
import java.util.List;
import java.util.NoSuchElementException;

/** A second reading of the document, as plain as can be, to compare the class with. */
final class Model {
    private static final BigInteger LIMIT = BigInteger.ONE.shiftLeft(31);

    final int base;
    final int range;
    final int low;
    final int start;

    Model(int base, int range, int low, int start) {
        this.base = base;
        this.range = range;
        this.low = low;
        this.start = start;
    }

    /** The rows of a program, seven numbers each; or the exception that is due. */
    List<int[]> rowsOf(List<Integer> program) {
        List<int[]> rows = new ArrayList<>();
        BigInteger address = BigInteger.ZERO;
        BigInteger line = BigInteger.ONE;
        int file = 1;
        int column = 0;
        int statement = start;
        int block = 0;
        int behindEnd = 0;
        int at = 0;
        while (at < program.size()) {
            behindEnd++;
            int code = program.get(at++);
            boolean row = false;
            boolean last = false;
            if (code >= base) {
                int k = code - base;
                line = line.add(BigInteger.valueOf(low + k % range));
                address = address.add(BigInteger.valueOf(k / range));
                row = true;
            } else if (code == 1) {
                row = true;
            } else if (code == 6) {
                statement ^= 1;
            } else if (code == 7) {
                block = 1;
            } else if (code == 8) {
                address = address.add(BigInteger.valueOf((255 - base) / range));
            } else if (code == 9) {
                if (program.size() - at < 2) {
                    throw new IndexOutOfBoundsException();
                }
                address = address.add(BigInteger.valueOf(program.get(at) + 256 * program.get(at + 1)));
                at += 2;
            } else {
                int length = numberLength(program, at);
                BigInteger number = number(program.subList(at, at + length), code == 3);
                at += length;
                if (code == 2) {
                    address = address.add(number);
                } else if (code == 3) {
                    line = line.add(number);
                } else if (code == 4) {
                    file = number.intValueExact();
                } else if (code == 5) {
                    column = number.intValueExact();
                } else if (code == 0) {
                    if (number.intValueExact() > program.size() - at) {
                        throw new IndexOutOfBoundsException();
                    }
                    List<Integer> body = program.subList(at, at + number.intValueExact());
                    at += body.size();
                    if (body.isEmpty() || body.get(0) == 0 || body.get(0) == 1 && body.size() != 1
                            || body.get(0) == 2 && body.size() != 5) {
                        throw new IllegalArgumentException();
                    }
                    if (body.get(0) == 1) {
                        row = true;
                        last = true;
                    } else if (body.get(0) == 2) {
                        address = BigInteger.ZERO;
                        for (int i = 4; i >= 1; i--) {
                            address = address.multiply(BigInteger.valueOf(256)).add(BigInteger.valueOf(body.get(i)));
                        }
                    }
                }
            }
            if (line.signum() < 0 || line.compareTo(LIMIT) >= 0 || address.compareTo(LIMIT) >= 0) {
                throw new ArithmeticException();
            }
            if (row) {
                int[] before = rows.isEmpty() ? null : rows.get(rows.size() - 1);
                if (before != null && before[6] == 0 && before[0] > address.intValueExact()) {
                    throw new UnsupportedOperationException();
                }
                if (rows.size() == 90) {
                    throw new IllegalStateException();
                }
                rows.add(new int[] {address.intValueExact(), file, line.intValueExact(), column, statement, block,
                    last ? 1 : 0});
                block = 0;
            }
            if (last) {
                address = BigInteger.ZERO;
                line = BigInteger.ONE;
                file = 1;
                column = 0;
                statement = start;
                behindEnd = 0;
            }
        }
        if (behindEnd != 0) {
            throw new NoSuchElementException();
        }
        return rows;
    }

    private static int numberLength(List<Integer> program, int at) {
        for (int i = 0; i < 5; i++) {
            if (at + i >= program.size()) {
                throw new IndexOutOfBoundsException();
            }
            if (program.get(at + i) < 128) {
                return i + 1;
            }
        }
        throw new IllegalArgumentException();
    }

    private static BigInteger number(List<Integer> groups, boolean signed) {
        BigInteger number = BigInteger.ZERO;
        for (int i = groups.size() - 1; i >= 0; i--) {
            number = number.shiftLeft(7).add(BigInteger.valueOf(groups.get(i) % 128));
        }
        if (signed && groups.get(groups.size() - 1) % 128 >= 64) {
            number = number.subtract(BigInteger.ONE.shiftLeft(7 * groups.size()));
        }
        if (number.compareTo(LIMIT) >= 0 || number.compareTo(LIMIT.negate()) < 0) {
            throw new IllegalArgumentException();
        }
        return number;
    }

    /** The program of a table of entries, five numbers each. */
    List<Integer> written(List<int[]> entries, int end) {
        List<Integer> out = new ArrayList<>(List.of(0, 5, 2));
        long address = entries.get(0)[0];
        for (int i = 0; i < 4; i++) {
            out.add((int) (address / (1L << (8 * i)) % 256));
        }
        int[] state = {0, 1, 1, 0, start};
        for (int[] entry : entries) {
            if (entry[1] != state[1]) {
                out.add(4);
                out.addAll(groups(entry[1], false));
            }
            if (entry[3] != state[3]) {
                out.add(5);
                out.addAll(groups(entry[3], false));
            }
            if (entry[4] != state[4]) {
                out.add(6);
            }
            long l = (long) entry[2] - state[2];
            if (l < low || l > low + range - 1) {
                out.add(3);
                out.addAll(groups(l, true));
                l = 0;
            }
            long a = entry[0] - address;
            long step = (255 - base) / range;
            if (base + l - low + range * a <= 255) {
                out.add((int) (base + l - low + range * a));
            } else if (a - step >= 0 && base + l - low + range * (a - step) <= 255) {
                out.add(8);
                out.add((int) (base + l - low + range * (a - step)));
            } else {
                out.add(2);
                out.addAll(groups(a, false));
                out.add((int) (base + l - low));
            }
            address = entry[0];
            state = entry;
        }
        if (end != address) {
            out.add(2);
            out.addAll(groups(end - address, false));
        }
        out.addAll(List.of(0, 1, 1));
        return out;
    }

    /** The shortest groups that read back as this number: tried from one group on. */
    private static List<Integer> groups(long number, boolean signed) {
        for (int size = 1; size <= 5; size++) {
            List<Integer> groups = new ArrayList<>();
            for (int i = 0; i < size; i++) {
                groups.add((int) (number >> (7 * i) & 127) + (i < size - 1 ? 128 : 0));
            }
            if (number(groups, signed).equals(BigInteger.valueOf(number))) {
                return groups;
            }
        }
        throw new AssertionError("no groups for " + number);
    }

    static int found(List<int[]> rows, int address) {
        for (int i = 0; i < rows.size(); i++) {
            if (rows.get(i)[6] == 0 && rows.get(i)[0] <= address && rows.get(i + 1)[0] > address) {
                return i;
            }
        }
        return -1;
    }
}
