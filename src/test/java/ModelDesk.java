import java.lang.reflect.Array;
import java.util.ArrayList;
import java.util.List;

/**
 * A second desk, built on Java's own arrays and java.lang.reflect.Array, whose exceptions come in the
 * order of the document's CAUSES. It shares no code with CordBoard, so that one can tell on the other.
 */
final class ModelDesk {
    static class Knob {
        final int number;
        final int gain;

        Knob(int number, int gain) {
            this.number = number;
            this.gain = gain;
        }
    }

    static final class Fader extends Knob {
        Fader(int number, int gain) {
            super(number, gain);
        }
    }

    private static final class Cord {
        int[] first;
        int[] now;
        int[] step;
        int[] socket;
        int way;
        int rule;
        boolean in = true;
        int moved;
        int cause;
        int side = -1;
        int causes;
    }

    private interface Deed {
        Object run();
    }

    private final Object[] sockets = new Object[10];
    private final List<Knob> knobs = new ArrayList<>();
    private final List<Cord> cords = new ArrayList<>();
    private Object result;
    private long seen;
    private int ticks;
    private int moves;

    int plug(int socket, int sort, int n) {
        if (noSocket(socket)) {
            return -101;
        }
        if (sort != 13 && (sort < 0 || sort > 11 || n < 0 || n > 16)) {
            return -102;
        }
        sockets[socket] = sort == 13 ? null : newHolder(sort, n);
        return 1;
    }

    private static Object newHolder(int sort, int n) {
        switch (sort) {
            case 8: return new Knob[n];
            case 9: return new Fader[n];
            case 10: return new int[n][];
            case 11: return new double[n][];
            default: return Array.newInstance(Numbers.TYPES[sort], n);
        }
    }

    int knob(int gain, boolean fader) {
        if (knobs.size() == 24) {
            return -103;
        }
        knobs.add(fader ? new Fader(knobs.size(), gain) : new Knob(knobs.size(), gain));
        return knobs.size() - 1;
    }

    int mount(int socket, int knob) {
        if (noSocket(socket) || noKnob(knob)) {
            return -101;
        }
        sockets[socket] = knobs.get(knob);
        return 1;
    }

    int share(int socket, int from) {
        if (noSocket(socket) || noSocket(from)) {
            return -101;
        }
        sockets[socket] = sockets[from];
        return 1;
    }

    int width(int socket) {
        if (noSocket(socket)) {
            return -101;
        }
        int cause = causeOf(() -> Array.getLength(sockets[socket]));
        return cause == 0 ? (Integer) result : -10 - cause;
    }

    int tap(int socket, int i, int kind) {
        if (noSocket(socket)) {
            return -101;
        }
        return noKind(kind) ? -102 : seeing(causeOf(() -> read(sockets[socket], i, kind)));
    }

    long seen() {
        return seen;
    }

    int dial(int socket, int i, int kind, long bits) {
        if (noSocket(socket)) {
            return -101;
        }
        if (noKind(kind) || Numbers.isNoNumber(kind, bits)) {
            return -102;
        }
        return answer(causeOf(() -> write(sockets[socket], i, kind, Numbers.boxed(kind, bits))));
    }

    int lay(int socket, int i, int knob) {
        if (noSocket(socket) || knob != -1 && noKnob(knob)) {
            return -101;
        }
        return answer(causeOf(() -> set(sockets[socket], i, knob == -1 ? null : knobs.get(knob))));
    }

    int row(int socket, int i, int n) {
        if (noSocket(socket)) {
            return -101;
        }
        if (n < 0 || n > 16) {
            return -102;
        }
        Object row = sockets[socket] instanceof double[][] ? new double[n] : new int[n];
        return answer(causeOf(() -> set(sockets[socket], i, row)));
    }

    int what(int socket, int i) {
        if (noSocket(socket)) {
            return -101;
        }
        int cause = causeOf(() -> Array.get(sockets[socket], i));
        if (cause != 0) {
            return -10 - cause;
        }
        if (result == null) {
            return -1;
        }
        if (result instanceof Knob knob) {
            return knob.number;
        }
        return result.getClass().isArray() ? 100 + Array.getLength(result) : 200 + Numbers.kindOf(result);
    }

    int inner(int socket, int i, int j, int kind) {
        if (noSocket(socket)) {
            return -101;
        }
        return noKind(kind) ? -102
                : seeing(causeOf(() -> read(Array.get(sockets[socket], i), j, kind)));
    }

    int enter(int socket, int i, int j, int kind, long bits) {
        if (noSocket(socket)) {
            return -101;
        }
        if (noKind(kind) || Numbers.isNoNumber(kind, bits)) {
            return -102;
        }
        return answer(causeOf(() ->
                write(Array.get(sockets[socket], i), j, kind, Numbers.boxed(kind, bits))));
    }

    int cable(int[] from, int[] to, int way, int rule) {
        if (noSocket(from[0]) || noSocket(to[0])) {
            return -101;
        }
        if (Math.abs((long) from[2]) > 4 || Math.abs((long) to[2]) > 4
                || way != -1 && noKind(way) || rule < 0 || rule > 2) {
            return -102;
        }
        if (cords.size() == 12) {
            return -103;
        }
        Cord cord = new Cord();
        cord.socket = new int[] {from[0], to[0]};
        cord.first = new int[] {from[1], to[1]};
        cord.now = cord.first.clone();
        cord.step = new int[] {from[2], to[2]};
        cord.way = way;
        cord.rule = rule;
        cords.add(cord);
        return cords.size() - 1;
    }

    int in(int cable) {
        if (noCord(cable)) {
            return -101;
        }
        Cord cord = cords.get(cable);
        cord.now = cord.first.clone();
        int answer = cord.in ? 0 : 1;
        cord.in = true;
        return answer;
    }

    int out(int cable) {
        if (noCord(cable)) {
            return -101;
        }
        int answer = cords.get(cable).in ? 1 : 0;
        cords.get(cable).in = false;
        return answer;
    }

    int tick(int n) {
        if (n < 0 || n > 8) {
            return -102;
        }
        int before = moves;
        for (int t = 0; t < n; t++) {
            ticks++;
            for (Cord cord : cords) {
                if (cord.in) {
                    carry(cord);
                }
            }
        }
        return moves - before;
    }

    private void carry(Cord cord) {
        Object from = sockets[cord.socket[0]];
        Object to = sockets[cord.socket[1]];
        boolean plain = cord.way == -1;
        int side = 0;
        int cause = causeOf(() -> plain ? Array.get(from, cord.now[0]) : read(from, cord.now[0], cord.way));
        if (cause == 0) {
            Object carried = result;
            side = 1;
            cause = causeOf(() -> plain ? set(to, cord.now[1], carried)
                    : write(to, cord.now[1], cord.way, carried));
        }
        if (cause == 0) {
            cord.moved++;
            moves++;
        } else {
            cord.cause = cause;
            cord.side = side;
            cord.causes++;
        }
        boolean falls = cause != 0 && (cord.rule == 0 || cord.causes >= 100);
        if (falls) {
            cord.in = false;
        } else if (cause != 0 && cord.rule == 2) {
            cord.now = cord.first.clone();
        } else {
            cord.now[0] += cord.step[0];
            cord.now[1] += cord.step[1];
        }
    }

    int told(int cable, int what) {
        if (noCord(cable)) {
            return -101;
        }
        if (what < 0 || what > 6) {
            return -102;
        }
        Cord cord = cords.get(cable);
        return new int[] {cord.in ? 1 : 0, cord.now[0], cord.now[1], cord.moved,
            cord.cause, cord.side, cord.causes}[what];
    }

    int level(int socket) {
        if (noSocket(socket)) {
            return -101;
        }
        return seeing(causeOf(() -> {
            long sum = 0;
            for (int i = 0; i < Array.getLength(sockets[socket]); i++) {
                sum += Array.getLong(sockets[socket], i);
            }
            return sum;
        }));
    }

    int gain(int knob) {
        return noKnob(knob) ? 0 : knobs.get(knob).gain;
    }

    int about(int what) {
        switch (what) {
            case 0: return knobs.size();
            case 1: return cords.size();
            case 2: return (int) cords.stream().filter(cord -> cord.in).count();
            case 3: return ticks;
            case 4: return moves;
            default: return -102;
        }
    }

    private boolean noSocket(int socket) {
        return socket < 0 || socket > 9;
    }

    private boolean noKnob(int knob) {
        return knob < 0 || knob >= knobs.size();
    }

    private boolean noCord(int cable) {
        return cable < 0 || cable >= cords.size();
    }

    private static boolean noKind(int kind) {
        return kind < 0 || kind > 7;
    }

    private static int answer(int cause) {
        return cause == 0 ? 0 : -10 - cause;
    }

    private int seeing(int cause) {
        if (cause == 0) {
            seen = Numbers.bitsOf(result);
        }
        return answer(cause);
    }

    private int causeOf(Deed deed) {
        try {
            result = deed.run();
            return 0;
        } catch (NullPointerException empty) {
            return 1;
        } catch (ArrayIndexOutOfBoundsException place) {
            return 3;
        } catch (IllegalArgumentException wrong) {
            return 2;
        }
    }

    private static Object set(Object array, int i, Object thing) {
        Array.set(array, i, thing);
        return null;
    }

    private static Object read(Object array, int i, int kind) {
        switch (kind) {
            case 0: return Array.getBoolean(array, i);
            case 1: return Array.getByte(array, i);
            case 2: return Array.getChar(array, i);
            case 3: return Array.getShort(array, i);
            case 4: return Array.getInt(array, i);
            case 5: return Array.getLong(array, i);
            case 6: return Array.getFloat(array, i);
            default: return Array.getDouble(array, i);
        }
    }

    private static Object write(Object array, int i, int kind, Object number) {
        switch (kind) {
            case 0: Array.setBoolean(array, i, (Boolean) number); break;
            case 1: Array.setByte(array, i, (Byte) number); break;
            case 2: Array.setChar(array, i, (Character) number); break;
            case 3: Array.setShort(array, i, (Short) number); break;
            case 4: Array.setInt(array, i, (Integer) number); break;
            case 5: Array.setLong(array, i, (Long) number); break;
            case 6: Array.setFloat(array, i, (Float) number); break;
            default: Array.setDouble(array, i, (Double) number); break;
        }
        return null;
    }
}
