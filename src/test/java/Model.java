import java.util.ArrayList;
import java.util.Arrays;
import java.util.List;
import java.util.TreeMap;

/**
 * The document once more, as plainly as the Java library allows and without regard to speed,
 * to compare the fob with on runs that nobody wrote by hand.
 */
final class Model {
    static final class Kept {
        byte[] house, user, d, id, point;
        long counter;
    }

    byte[] master = Bytes.hash(Bytes.of(0));
    int turn;
    byte[] token = fresh();
    byte[] pin;
    int tries = 8;
    int misses;
    boolean touched;
    List<Kept> keys = new ArrayList<>();
    List<Kept> waits = new ArrayList<>();
    byte[] tape = new byte[0];
    byte[] out = new byte[0];
    private byte[] word;
    private int flags;
    private TreeMap<Integer, Object> map;
    private byte[] signature, signedHash, signedPoint;
    private int signatures;

    private byte[] fresh() {
        return Bytes.hash(master, Bytes.four(turn++));
    }

    int feed(int... numbers) {
        if (tape.length + 20 > 400) {
            return -5;
        }
        for (int number : numbers) {
            tape = Bytes.join(tape, Bytes.four(number));
        }
        return tape.length;
    }

    int trim(int n) {
        if (n < 0 || n > tape.length) {
            return -3;
        }
        tape = Bytes.part(tape, 0, n);
        return n;
    }

    int out(int i) {
        return i < 0 || i >= out.length ? -1 : out[i] & 255;
    }

    int keep(int a, int n) {
        if (a < 0 || n < 0 || (long) a + n > out.length) {
            return -3;
        }
        if (tape.length + n > 400) {
            return -5;
        }
        tape = Bytes.join(tape, Bytes.part(out, a, n));
        return tape.length;
    }

    int touch() {
        boolean was = touched;
        touched = true;
        return was ? 0 : 1;
    }

    int power() {
        misses = 0;
        token = fresh();
        waits.clear();
        touched = false;
        return turn;
    }

    int advance(int k, int v) {
        if (k < 0 || k >= keys.size()) {
            return -1;
        }
        if (Integer.toUnsignedLong(v) < keys.get(k).counter) {
            return 0;
        }
        keys.get(k).counter = Integer.toUnsignedLong(v);
        return 1;
    }

    int check() {
        return signatures == 0 ? -1 : verdict(signature);
    }

    int forged(int bit) {
        if (bit < 0 || bit > 511) {
            return -3;
        }
        if (signatures == 0) {
            return -1;
        }
        return verdict(Bytes.turned(signature, bit));
    }

    int count(int what) {
        int[] counts = {keys.size(), tries, misses, pin == null ? 0 : 1, touched ? 1 : 0, waits.size(),
            out.length, tape.length, turn, signatures};
        return what < 0 || what >= counts.length ? -3 : counts[what];
    }

    int key(int k, int what, int i) {
        if (k < 0 || k >= keys.size() || what < 0 || what > 4) {
            return -1;
        }
        Kept kept = keys.get(k);
        byte[][] rows = {kept.house, kept.user, kept.id, Bytes.four(kept.counter), kept.point};
        return i < 0 || i >= rows[what].length ? -1 : rows[what][i] & 255;
    }

    int send(int command) {
        if (command != 8) {
            waits.clear();
        }
        out = new byte[0];
        int status = run(command);
        tape = new byte[0];
        return status;
    }

    private int run(int command) {
        switch (command) {
            case 1: {
                int fault = fault("1r!32-32 2t!1-32 3r!1-16 5l?16-16 8r?16-16");
                return fault != 0 ? fault : make();
            }
            case 2: {
                int fault = fault("1t!1-32 2r!32-32 3l?16-16 5y?0-0 6r?16-16");
                return fault != 0 ? fault : get();
            }
            case 6: {
                int fault = fault("1n!0-0 2r?16-16 3r?16-16");
                return fault != 0 ? fault : pin();
            }
            case 7: return reset();
            case 8: return next();
            default: return 1;
        }
    }

    // ---- the form

    /** A value with its kind. */
    private record Value(char kind, Object held) {
    }

    private int place;

    private int fault(String known) {
        map = new TreeMap<>();
        place = 0;
        try {
            readMap();
        } catch (IllegalArgumentException e) {
            return 18;
        }
        for (String name : known.split(" ")) {
            Value value = (Value) map.get(name.charAt(0) - '0');
            if (value != null && value.kind != name.charAt(1)) {
                return 17;
            }
        }
        for (String name : known.split(" ")) {
            if (name.charAt(2) == '!' && !map.containsKey(name.charAt(0) - '0')) {
                return 20;
            }
        }
        for (String name : known.split(" ")) {
            String[] ends = name.substring(3).split("-");
            int least = Integer.parseInt(ends[0]);
            int most = Integer.parseInt(ends[1]);
            for (byte[] row : rowsOf(name.charAt(0) - '0')) {
                if (row.length < least || row.length > most) {
                    return 3;
                }
            }
        }
        return 0;
    }

    private List<byte[]> rowsOf(int name) {
        List<byte[]> rows = new ArrayList<>();
        Value value = (Value) map.get(name);
        if (value != null && value.held instanceof byte[] row) {
            rows.add(row);
        }
        if (value != null && value.held instanceof byte[][] list) {
            rows.addAll(Arrays.asList(list));
        }
        return rows;
    }

    private byte[] row(int name) {
        Value value = (Value) map.get(name);
        return value == null ? null : (byte[]) value.held;
    }

    private void readMap() {
        int pairs = next1() - 0xA0;
        demand(pairs >= 0 && pairs <= 15);
        int last = -1;
        for (int i = 0; i < pairs; i++) {
            int name = next1();
            demand(name > last && name <= 23);
            last = name;
            map.put(name, readValue());
        }
        demand(place == tape.length);
    }

    private Value readValue() {
        int head = tape.length > place ? tape[place] & 255 : -1;
        if (head == 0xF4 || head == 0xF5) {
            place++;
            return new Value('y', head == 0xF5);
        }
        if (head >= 0x40 && head <= 0x58) {
            return new Value('r', readBytes(0x40));
        }
        if (head >= 0x60 && head <= 0x78) {
            return new Value('t', readBytes(0x60));
        }
        if (head >= 0x80 && head <= 0x8F) {
            place++;
            byte[][] rows = new byte[head - 0x80][];
            for (int i = 0; i < rows.length; i++) {
                rows[i] = readBytes(0x40);
            }
            return new Value('l', rows);
        }
        int first = next1();
        int number = first;
        if (first == 0x18) {
            number = next1();
            demand(number >= 24);
        } else if (first == 0x19) {
            number = next1() * 256;
            number += next1();
            demand(number >= 256);
        } else {
            demand(first <= 23);
        }
        return new Value('n', number);
    }

    private byte[] readBytes(int base) {
        int head = next1() - base;
        demand(head >= 0 && head <= 24);
        int length = head;
        if (head == 24) {
            length = next1();
            demand(length >= 24);
        }
        demand(place + length <= tape.length);
        place += length;
        return Bytes.part(tape, place - length, length);
    }

    private int next1() {
        demand(place < tape.length);
        return tape[place++] & 255;
    }

    private static void demand(boolean so) {
        if (!so) {
            throw new IllegalArgumentException("no map");
        }
    }

    // ---- the commands

    private int make() {
        word = row(1);
        byte[] house = Bytes.hash(row(2));
        byte[] user = row(3);
        for (Kept kept : keys) {
            for (byte[] id : rowsOf(5)) {
                if (Arrays.equals(kept.house, house) && Arrays.equals(kept.id, id)) {
                    return 25;
                }
            }
        }
        if (pin != null && row(8) == null) {
            return 54;
        }
        if (pin != null && !Arrays.equals(row(8), Bytes.proof(token, word))) {
            return 51;
        }
        Kept same = null;
        for (Kept kept : keys) {
            if (Arrays.equals(kept.house, house) && Arrays.equals(kept.user, user)) {
                same = kept;
            }
        }
        if (keys.size() == 10 && same == null) {
            return 40;
        }
        if (!touched) {
            return 39;
        }
        touched = false;
        keys.remove(same);
        Kept made = new Kept();
        made.house = house;
        made.user = user;
        made.d = PlainCurve.scalar(fresh());
        made.id = Bytes.part(Bytes.hash(made.d), 0, 16);
        made.point = PlainCurve.point(made.d);
        keys.add(made);
        byte[] data = Bytes.join(house, Bytes.of(pin == null ? 65 : 69), Bytes.four(0), made.id, made.point);
        sign(made, data);
        out = new MapOf().row(1, data).row(2, signature).bytes();
        return 0;
    }

    private int get() {
        byte[] house = Bytes.hash(row(1));
        word = row(2);
        boolean waived = map.get(5) instanceof Value value && value.held.equals(false);
        List<Kept> found = new ArrayList<>();
        for (Kept kept : keys) {
            boolean listed = !map.containsKey(3);
            for (byte[] id : rowsOf(3)) {
                listed = listed || Arrays.equals(id, kept.id);
            }
            if (listed && Arrays.equals(kept.house, house)) {
                found.add(0, kept);
            }
        }
        if (row(6) != null && (pin == null || !Arrays.equals(row(6), Bytes.proof(token, word)))) {
            return 51;
        }
        if (found.isEmpty()) {
            return 46;
        }
        if (!touched && !waived) {
            return 39;
        }
        if (found.get(0).counter == 0xFFFFFFFFL) {
            return 127;
        }
        touched = touched && waived;
        flags = (waived ? 0 : 1) + (row(6) != null ? 4 : 0);
        waits.addAll(found.subList(1, found.size()));
        out = asserts(found.get(0), found.size());
        return 0;
    }

    private int next() {
        if (waits.isEmpty()) {
            return 48;
        }
        Kept first = waits.remove(0);
        if (first.counter == 0xFFFFFFFFL) {
            return 127;
        }
        out = asserts(first, 1);
        return 0;
    }

    private byte[] asserts(Kept kept, int found) {
        kept.counter++;
        byte[] data = Bytes.join(kept.house, Bytes.of(flags), Bytes.four(kept.counter));
        sign(kept, data);
        MapOf answer = new MapOf().row(1, kept.id).row(2, data).row(3, signature).row(4, kept.user);
        return (found > 1 ? answer.number(5, found) : answer).bytes();
    }

    private int pin() {
        int kind = (Integer) ((Value) map.get(1)).held;
        if (kind == 1) {
            out = new MapOf().number(1, tries).bytes();
            return 0;
        }
        if (kind == 2) {
            if (row(3) == null) {
                return 20;
            }
            if (pin != null) {
                return 51;
            }
            pin = row(3);
            token = fresh();
            return 0;
        }
        if (kind == 3) {
            if (row(2) == null || row(3) == null) {
                return 20;
            }
            int tried = tried();
            if (tried == 0) {
                pin = row(3);
                token = fresh();
            }
            return tried;
        }
        if (kind == 4) {
            if (row(2) == null) {
                return 20;
            }
            int tried = tried();
            if (tried == 0) {
                out = new MapOf().row(2, token).bytes();
            }
            return tried;
        }
        return 2;
    }

    private int tried() {
        if (pin == null) {
            return 53;
        }
        if (tries == 0) {
            return 50;
        }
        if (misses == 3) {
            return 52;
        }
        tries--;
        if (Arrays.equals(pin, row(2))) {
            tries = 8;
            misses = 0;
            return 0;
        }
        misses++;
        return tries == 0 ? 50 : misses == 3 ? 52 : 49;
    }

    private int reset() {
        if (!touched) {
            return 39;
        }
        master = Bytes.hash(master, Bytes.of(1));
        turn = 0;
        token = fresh();
        pin = null;
        tries = 8;
        misses = 0;
        touched = false;
        keys.clear();
        signatures = 0;
        return 0;
    }

    private void sign(Kept kept, byte[] data) {
        signedHash = Bytes.hash(data, word);
        signedPoint = kept.point;
        signature = PlainCurve.signature(kept.d, signedHash);
        signatures++;
    }

    private int verdict(byte[] rs) {
        return PlainCurve.isRight(rs, signedHash, signedPoint) ? 1 : 0;
    }
}
