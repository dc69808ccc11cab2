import java.util.TreeMap;

/** Writes a map in THE FORM; a NAME that comes again takes the place of the one before. */
final class MapOf {
    private final TreeMap<Integer, byte[]> pairs = new TreeMap<>();

    MapOf number(int name, int number) {
        if (number < 24) {
            return value(name, number);
        }
        return number < 256 ? value(name, 0x18, number) : value(name, 0x19, number >> 8, number);
    }

    MapOf row(int name, byte[] bytes) {
        pairs.put(name, sized(0x40, bytes));
        return this;
    }

    MapOf text(int name, byte[] bytes) {
        pairs.put(name, sized(0x60, bytes));
        return this;
    }

    MapOf text(int name, String text) {
        return text(name, Bytes.text(text));
    }

    MapOf list(int name, byte[]... rows) {
        byte[] all = Bytes.of(0x80 + rows.length);
        for (byte[] row : rows) {
            all = Bytes.join(all, sized(0x40, row));
        }
        pairs.put(name, all);
        return this;
    }

    MapOf flag(int name, boolean yes) {
        return value(name, yes ? 0xF5 : 0xF4);
    }

    /** A VALUE byte by byte. */
    MapOf value(int name, int... bytes) {
        pairs.put(name, Bytes.of(bytes));
        return this;
    }

    MapOf without(int name) {
        pairs.remove(name);
        return this;
    }

    byte[] bytes() {
        byte[] all = Bytes.of(0xA0 + pairs.size());
        for (int name : pairs.keySet()) {
            all = Bytes.join(all, Bytes.of(name), pairs.get(name));
        }
        return all;
    }

    private static byte[] sized(int head, byte[] bytes) {
        byte[] start = bytes.length < 24 ? Bytes.of(head + bytes.length) : Bytes.of(head + 0x18, bytes.length);
        return Bytes.join(start, bytes);
    }
}
