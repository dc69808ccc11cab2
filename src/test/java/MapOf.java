import java.io.ByteArrayOutputStream;

/** Writes a map in THE FORM, pair by pair. */
final class MapOf {
    private final ByteArrayOutputStream pairs = new ByteArrayOutputStream();
    private int size;

    MapOf number(int name, int number) {
        begin(name);
        if (number < 24) {
            pairs.write(number);
        } else if (number < 256) {
            pairs.write(0x18);
            pairs.write(number);
        } else {
            pairs.write(0x19);
            pairs.write(number >> 8);
            pairs.write(number);
        }
        return this;
    }

    MapOf row(int name, byte[] bytes) {
        begin(name);
        bytes(0x40, bytes);
        return this;
    }

    MapOf text(int name, byte[] bytes) {
        begin(name);
        bytes(0x60, bytes);
        return this;
    }

    MapOf text(int name, String text) {
        return text(name, Bytes.text(text));
    }

    MapOf list(int name, byte[]... rows) {
        begin(name);
        pairs.write(0x80 + rows.length);
        for (byte[] row : rows) {
            bytes(0x40, row);
        }
        return this;
    }

    MapOf flag(int name, boolean yes) {
        begin(name);
        pairs.write(yes ? 0xF5 : 0xF4);
        return this;
    }

    byte[] bytes() {
        return Bytes.join(Bytes.of(0xA0 + size), pairs.toByteArray());
    }

    private void begin(int name) {
        size++;
        pairs.write(name);
    }

    private void bytes(int head, byte[] bytes) {
        if (bytes.length < 24) {
            pairs.write(head + bytes.length);
        } else {
            pairs.write(head + 0x18);
            pairs.write(bytes.length);
        }
        pairs.write(bytes, 0, bytes.length);
    }
}
