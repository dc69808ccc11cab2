/** A fob that keeps keys for houses and signs for them; README.md tells how it is used. */
public final class KeyFob {
    public static final int NONE = -1, OUTSIDE = -3, FULL = -5;

    private static final int MAKE = 1, GET = 2, PIN = 6, RESET = 7, NEXT = 8;

    private static final int DONE = 0, NO_COMMAND = 1, WRONG_PIN_KIND = 2, WRONG_LENGTH = 3;
    private static final int WRONG_KIND = 17, NO_MAP = 18, MISSING = 20, EXCLUDED = 25;
    private static final int NOT_TOUCHED = 39, KEYS_FULL = 40, NOT_FOUND = 46, NONE_WAIT = 48;
    private static final int WRONG_PIN = 49, NO_TRIES = 50, REFUSED = 51, MISSED_OFTEN = 52;
    private static final int NO_PIN = 53, NO_PROOF = 54, COUNTER_ENDS = 127;

    private static final int HASH_BYTES = 32, ID_BYTES = 16, PIN_BYTES = 16, PROOF_BYTES = 16;
    private static final int POINT_BYTES = 64, SIGNATURE_BYTES = 64, SIGNATURE_BITS = 512;
    private static final int MOST_KEYS = 10, MOST_USER = 16, TAPE_BYTES = 400, OUT_BYTES = 200;
    private static final long LAST_COUNTER = 0xFFFFFFFFL;

    private static final int ABSENT = 0, NUMBER = 1, ROW = 2, TEXT = 3, LIST = 4, YES_NO = 5;

    // For each NAME that a command knows: NAME, kind, 1 if it must be there, least and most length.
    private static final int[] MAKE_NAMES = {
        1, ROW, 1, 32, 32,
        2, TEXT, 1, 1, 32,
        3, ROW, 1, 1, 16,
        5, LIST, 0, 16, 16,
        8, ROW, 0, 16, 16};
    private static final int[] GET_NAMES = {
        1, TEXT, 1, 1, 32,
        2, ROW, 1, 32, 32,
        3, LIST, 0, 16, 16,
        5, YES_NO, 0, 0, 0,
        6, ROW, 0, 16, 16};
    private static final int[] PIN_NAMES = {
        1, NUMBER, 1, 0, 0,
        2, ROW, 0, 16, 16,
        3, ROW, 0, 16, 16};

    private final Tape tape = new Tape();
    private final Row reply = new Row(OUT_BYTES);
    private final Row data = new Row(OUT_BYTES);
    private final Vault vault = new Vault();
    private final Ring ring = new Ring();
    private final Queue waits = new Queue();
    private final Signer signer = new Signer();
    private final Hash hash = new Hash();
    private final int[] house = new int[HASH_BYTES];
    private final int[] seed = new int[HASH_BYTES];
    // Both stay behind GET, as NEXT signs with them again.
    private final int[] word = new int[HASH_BYTES];
    private int flags;
    private boolean touched;

    public KeyFob() {
    }

    public int feed(int a, int b, int c, int d, int e) {
        if (!tape.row.takes(20)) {
            return FULL;
        }
        tape.row.putFour(a);
        tape.row.putFour(b);
        tape.row.putFour(c);
        tape.row.putFour(d);
        tape.row.putFour(e);
        return tape.row.length;
    }

    public int trim(int n) {
        if (n < 0 || n > tape.row.length) {
            return OUTSIDE;
        }
        tape.row.cut(n);
        return n;
    }

    public int send(int command) {
        if (command != NEXT) {
            waits.clear();
        }
        reply.cut(0);
        int status;
        switch (command) {
            case MAKE:
                status = tape.fault(MAKE_NAMES);
                status = status == DONE ? makeKey() : status;
                break;
            case GET:
                status = tape.fault(GET_NAMES);
                status = status == DONE ? findKeys() : status;
                status = status == DONE ? assertFirst(waits.size()) : status;
                break;
            case PIN:
                status = tape.fault(PIN_NAMES);
                status = status == DONE ? usePin() : status;
                break;
            case RESET:
                status = reset();
                break;
            case NEXT:
                status = assertFirst(0);
                break;
            default:
                status = NO_COMMAND;
                break;
        }
        tape.row.cut(0);
        return status;
    }

    public int out(int i) {
        return reply.at(i);
    }

    public int keep(int a, int n) {
        if (a < 0 || n < 0 || a > reply.length || n > reply.length - a) {
            return OUTSIDE;
        }
        if (!tape.row.takes(n)) {
            return FULL;
        }
        tape.row.putAll(reply.bytes, a, n);
        return tape.row.length;
    }

    public int touch() {
        if (touched) {
            return 0;
        }
        touched = true;
        return 1;
    }

    public int power() {
        vault.wake();
        waits.clear();
        touched = false;
        return vault.turn;
    }

    public int advance(int k, int v) {
        Key kept = ring.at(k);
        if (kept == null) {
            return NONE;
        }
        long counter = v & LAST_COUNTER;
        if (counter < kept.counter) {
            return 0;
        }
        kept.counter = counter;
        return 1;
    }

    public int check() {
        return signer.verdict(NONE);
    }

    public int forged(int bit) {
        if (bit < 0 || bit >= SIGNATURE_BITS) {
            return OUTSIDE;
        }
        return signer.verdict(bit);
    }

    public int count(int what) {
        switch (what) {
            case 0: return ring.kept;
            case 1: return vault.tries;
            case 2: return vault.misses;
            case 3: return vault.hasPin ? 1 : 0;
            case 4: return touched ? 1 : 0;
            case 5: return waits.size();
            case 6: return reply.length;
            case 7: return tape.row.length;
            case 8: return vault.turn;
            case 9: return signer.made;
            default: return OUTSIDE;
        }
    }

    public int key(int k, int what, int i) {
        Key kept = ring.at(k);
        return kept == null ? NONE : kept.byteOf(what, i);
    }

    private int makeKey() {
        tape.copyValue(1, word);
        readHouse(2);
        int known = ring.find(house, tape, 3);
        int refusal = refusalToMake(known);
        if (refusal != DONE) {
            return refusal;
        }
        touched = false;
        Key made = ring.renew(known);
        if (made == null) {
            return KEYS_FULL;
        }
        fillKey(made);
        writeData(made, vault.hasPin ? 69 : 65);
        data.putAll(made.id, 0, ID_BYTES);
        data.putAll(made.point, 0, POINT_BYTES);
        signer.sign(made, data, word);
        reply.openMap(2);
        reply.putRow(1, data.bytes, data.length);
        reply.putRow(2, signer.signature, SIGNATURE_BYTES);
        return DONE;
    }

    private void readHouse(int name) {
        hash.begin();
        hash.putAll(tape.row.bytes, tape.startOf(name), tape.sizeOf(name));
        hash.end(house);
    }

    private int refusalToMake(int known) {
        for (int k = 0; k < ring.kept; k++) {
            Key kept = ring.at(k);
            if (kept != null && kept.isOf(house) && tape.lists(5, kept.id)) {
                return EXCLUDED;
            }
        }
        if (vault.hasPin && !tape.has(8)) {
            return NO_PROOF;
        }
        if (vault.hasPin && !vault.proves(tape, 8, word)) {
            return REFUSED;
        }
        if (known == NONE && ring.kept >= MOST_KEYS) {
            return KEYS_FULL;
        }
        return touched ? DONE : NOT_TOUCHED;
    }

    private void fillKey(Key made) {
        vault.fresh(seed);
        signer.drawSecret(made, seed);
        hash.begin();
        hash.putAll(made.secret, 0, HASH_BYTES);
        hash.end(seed);
        System.arraycopy(seed, 0, made.id, 0, ID_BYTES);
        System.arraycopy(house, 0, made.house, 0, HASH_BYTES);
        tape.copyValue(3, made.user);
        made.userLength = tape.sizeOf(3);
        made.counter = 0;
    }

    private void writeData(Key signing, int flagByte) {
        data.cut(0);
        data.putAll(signing.house, 0, HASH_BYTES);
        data.put(flagByte);
        data.putFour(signing.counter);
    }

    /** The KEYS that are FOUND wait, the one that asserts first of them. */
    private int findKeys() {
        tape.copyValue(2, word);
        readHouse(1);
        boolean waived = tape.isNo(5);
        flags = (waived ? 0 : 1) + (tape.has(6) ? 4 : 0);
        boolean listed = tape.has(3);
        for (int k = ring.kept - 1; k >= 0; k--) {
            Key kept = ring.at(k);
            if (kept != null && kept.isOf(house) && (!listed || tape.lists(3, kept.id))) {
                waits.add(kept);
            }
        }
        int refusal = refusalToGet(waived);
        if (refusal != DONE) {
            waits.clear();
        } else if (!waived) {
            touched = false;
        }
        return refusal;
    }

    private int refusalToGet(boolean waived) {
        if (tape.has(6) && !(vault.hasPin && vault.proves(tape, 6, word))) {
            return REFUSED;
        }
        Key first = waits.first();
        if (first == null) {
            return NOT_FOUND;
        }
        if (!touched && !waived) {
            return NOT_TOUCHED;
        }
        return first.counter == LAST_COUNTER ? COUNTER_ENDS : DONE;
    }

    /** Found is 0 behind NEXT, which does not tell how many there were. */
    private int assertFirst(int found) {
        Key signing = waits.first();
        if (signing == null) {
            return NONE_WAIT;
        }
        waits.drop();
        if (signing.counter == LAST_COUNTER) {
            return COUNTER_ENDS;
        }
        signing.counter++;
        writeData(signing, flags);
        signer.sign(signing, data, word);
        reply.openMap(found > 1 ? 5 : 4);
        reply.putRow(1, signing.id, ID_BYTES);
        reply.putRow(2, data.bytes, data.length);
        reply.putRow(3, signer.signature, SIGNATURE_BYTES);
        reply.putRow(4, signing.user, signing.userLength);
        if (found > 1) {
            reply.putNumber(5, found);
        }
        return DONE;
    }

    private int usePin() {
        int kind = tape.sizeOf(1);
        int refusal = refusalOfPin(kind);
        if (refusal != DONE) {
            return refusal;
        }
        switch (kind) {
            case 1:
                reply.openMap(1);
                reply.putNumber(1, vault.tries);
                break;
            case 4:
                reply.openMap(1);
                reply.putRow(2, vault.token, HASH_BYTES);
                break;
            default:
                vault.setPin(tape, 3);
                break;
        }
        return DONE;
    }

    private int refusalOfPin(int kind) {
        if (kind < 1 || kind > 4) {
            return WRONG_PIN_KIND;
        }
        boolean needsOld = kind >= 3;
        boolean needsNew = kind == 2 || kind == 3;
        if ((needsOld && !tape.has(2)) || (needsNew && !tape.has(3))) {
            return MISSING;
        }
        if (needsOld) {
            return vault.tryPin(tape, 2);
        }
        return needsNew && vault.hasPin ? REFUSED : DONE;
    }

    private int reset() {
        if (!touched) {
            return NOT_TOUCHED;
        }
        vault.changeMaster();
        vault.begin();
        ring.clear();
        signer.forget();
        touched = false;
        return DONE;
    }

    private static boolean sameBytes(int[] a, int[] b, int from, int n) {
        if (n > a.length || from < 0 || from > b.length || n > b.length - from) {
            return false;
        }
        for (int i = 0; i < n; i++) {
            if (a[i] != b[from + i]) {
                return false;
            }
        }
        return true;
    }

    /** Bytes, up to a limit that is never passed. */
    private static final class Row {
        final int[] bytes;
        int length;

        Row(int limit) {
            bytes = new int[Math.max(limit, 0)];
        }

        boolean takes(int n) {
            return n >= 0 && n <= bytes.length - length;
        }

        int at(int i) {
            return i >= 0 && i < length ? bytes[i] : NONE;
        }

        void cut(int n) {
            if (n >= 0 && n < length) {
                length = n;
            }
        }

        void put(int value) {
            if (takes(1)) {
                bytes[length] = value & 255;
                length++;
            }
        }

        void putFour(long number) {
            for (int shift = 24; shift >= 0; shift -= 8) {
                put((int) (number >> shift));
            }
        }

        void putAll(int[] from, int start, int n) {
            if (start < 0 || start > from.length || n > from.length - start || !takes(n)) {
                return;
            }
            System.arraycopy(from, start, bytes, length, n);
            length += n;
        }

        void openMap(int pairs) {
            put(0xA0 + pairs);
        }

        /** No number that is told reaches 24, so its byte is all there is. */
        void putNumber(int name, int number) {
            put(name);
            put(number);
        }

        void putRow(int name, int[] from, int n) {
            put(name);
            if (n < 24) {
                put(0x40 + n);
            } else {
                put(0x58);
                put(n);
            }
            putAll(from, 0, n);
        }
    }

    /** The tape, and what stands in it if it is a map. */
    private static final class Tape {
        private static final int NAMES = 24, MOST_PAIRS = 15, MOST_ROWS = 15;
        private static final int NO = 0xF4, YES = 0xF5;

        final Row row = new Row(TAPE_BYTES);
        private final int[] kinds = new int[NAMES];
        // Of a ROW or TEXT its first byte and length, of a LIST its first item and their number;
        // the size of a NUMBER or of yes and no is the value itself.
        private final int[] starts = new int[NAMES];
        private final int[] sizes = new int[NAMES];
        private final int[] itemStarts = new int[MOST_PAIRS * MOST_ROWS];
        private final int[] itemSizes = new int[MOST_PAIRS * MOST_ROWS];
        private int items;
        private int place;

        /** The STATUS that every command with a map gives before its own. */
        int fault(int[] known) {
            if (!isMap()) {
                return NO_MAP;
            }
            for (int i = 0; i + 4 < known.length; i += 5) {
                if (has(known[i]) && kindOf(known[i]) != known[i + 1]) {
                    return WRONG_KIND;
                }
            }
            for (int i = 0; i + 4 < known.length; i += 5) {
                if (known[i + 2] == 1 && !has(known[i])) {
                    return MISSING;
                }
            }
            for (int i = 0; i + 4 < known.length; i += 5) {
                if (!fits(known[i], known[i + 3], known[i + 4])) {
                    return WRONG_LENGTH;
                }
            }
            return DONE;
        }

        boolean has(int name) {
            return kindOf(name) != ABSENT;
        }

        boolean isNo(int name) {
            return kindOf(name) == YES_NO && sizeOf(name) == 0;
        }

        int startOf(int name) {
            return name >= 0 && name < NAMES ? starts[name] : 0;
        }

        int sizeOf(int name) {
            return name >= 0 && name < NAMES ? sizes[name] : 0;
        }

        boolean holds(int name, int[] bytes, int n) {
            return sizeOf(name) == n && sameBytes(bytes, row.bytes, startOf(name), n);
        }

        void copyValue(int name, int[] into) {
            int n = Math.min(sizeOf(name), into.length);
            for (int i = 0; i < n; i++) {
                into[i] = row.at(startOf(name) + i);
            }
        }

        boolean lists(int name, int[] id) {
            if (kindOf(name) != LIST) {
                return false;
            }
            int end = Math.min(startOf(name) + sizeOf(name), items);
            for (int i = startOf(name); i < end; i++) {
                if (sameBytes(id, row.bytes, itemStarts[i], ID_BYTES)) {
                    return true;
                }
            }
            return false;
        }

        private int kindOf(int name) {
            return name >= 0 && name < NAMES ? kinds[name] : ABSENT;
        }

        private boolean fits(int name, int least, int most) {
            int kind = kindOf(name);
            if (kind == ROW || kind == TEXT) {
                return sizeOf(name) >= least && sizeOf(name) <= most;
            }
            if (kind != LIST) {
                return true;
            }
            int end = Math.min(startOf(name) + sizeOf(name), items);
            for (int i = startOf(name); i < end; i++) {
                if (itemSizes[i] < least || itemSizes[i] > most) {
                    return false;
                }
            }
            return true;
        }

        private boolean isMap() {
            for (int i = 0; i < NAMES; i++) {
                kinds[i] = ABSENT;
                sizes[i] = 0;
            }
            items = 0;
            place = 0;
            int pairs = nextByte() - 0xA0;
            if (pairs < 0 || pairs > MOST_PAIRS) {
                return false;
            }
            int before = -1;
            for (int i = 0; i < pairs; i++) {
                int name = nextByte();
                if (name <= before || name >= NAMES || !readValue(name)) {
                    return false;
                }
                before = name;
            }
            return place == row.length;
        }

        private int nextByte() {
            if (place >= row.length) {
                return NONE;
            }
            int value = row.bytes[place];
            place++;
            return value;
        }

        private boolean readValue(int name) {
            int head = nextByte();
            if (head == NO || head == YES) {
                return note(name, YES_NO, 0, head - NO);
            }
            int low = head & 31;
            switch (head >> 5) {
                case 0: return note(name, NUMBER, 0, low == 25 ? readTwo() : readShort(low));
                case 2: return readBytes(name, ROW, readShort(low));
                case 3: return readBytes(name, TEXT, readShort(low));
                case 4: return readList(name, low);
                default: return false;
            }
        }

        /** A size of NONE tells that there is no such value. */
        private boolean note(int name, int kind, int start, int size) {
            if (size == NONE) {
                return false;
            }
            kinds[name] = kind;
            starts[name] = start;
            sizes[name] = size;
            return true;
        }

        /** Only from 256 on: what is less has a shorter form. */
        private int readTwo() {
            int high = nextByte();
            int low = nextByte();
            return high > 0 && low != NONE ? high * 256 + low : NONE;
        }

        /** A second byte only from 24 on: what is less stands in the first. */
        private int readShort(int low) {
            if (low < 24) {
                return low;
            }
            int value = low == 24 ? nextByte() : NONE;
            return value >= 24 ? value : NONE;
        }

        private boolean readBytes(int name, int kind, int size) {
            int start = place;
            return skip(size) && note(name, kind, start, size);
        }

        private boolean skip(int n) {
            if (n < 0 || n > row.length - place) {
                return false;
            }
            place += n;
            return true;
        }

        private boolean readList(int name, int rows) {
            if (rows > MOST_ROWS) {
                return false;
            }
            int first = items;
            for (int i = 0; i < rows; i++) {
                int head = nextByte();
                int size = head >> 5 == 2 ? readShort(head & 31) : NONE;
                int start = place;
                if (!skip(size) || items >= itemStarts.length) {
                    return false;
                }
                itemStarts[items] = start;
                itemSizes[items] = size;
                items++;
            }
            return note(name, LIST, first, rows);
        }
    }

    /** What is kept for one HOUSE and USER. */
    private static final class Key {
        final int[] house = new int[HASH_BYTES];
        final int[] user = new int[MOST_USER];
        final int[] secret = new int[HASH_BYTES];
        final int[] id = new int[ID_BYTES];
        final int[] point = new int[POINT_BYTES];
        int userLength;
        long counter;

        boolean isOf(int[] aHouse) {
            return sameBytes(house, aHouse, 0, HASH_BYTES);
        }

        int byteOf(int what, int i) {
            switch (what) {
                case 0: return byteIn(house, house.length, i);
                case 1: return byteIn(user, userLength, i);
                case 2: return byteIn(id, id.length, i);
                case 3: return i >= 0 && i < 4 ? (int) (counter >> (24 - 8 * i)) & 255 : NONE;
                case 4: return byteIn(point, point.length, i);
                default: return NONE;
            }
        }

        private static int byteIn(int[] row, int length, int i) {
            return i >= 0 && i < length && i < row.length ? row[i] : NONE;
        }
    }

    /** The KEYS, the one made first at 0; slots that hold none stand behind them and are used again. */
    private static final class Ring {
        private final Key[] slots = new Key[MOST_KEYS];
        int kept;

        Ring() {
            for (int k = 0; k < MOST_KEYS; k++) {
                slots[k] = new Key();
            }
        }

        void clear() {
            kept = 0;
        }

        Key at(int k) {
            return k >= 0 && k < kept && k < MOST_KEYS ? slots[k] : null;
        }

        int find(int[] house, Tape tape, int userName) {
            for (int k = 0; k < kept && k < MOST_KEYS; k++) {
                Key each = slots[k];
                if (each.isOf(house) && tape.holds(userName, each.user, each.userLength)) {
                    return k;
                }
            }
            return NONE;
        }

        /** The slot of a new KEY behind all others, in the place of the one at known, if there is one. */
        Key renew(int known) {
            if (known < 0 || known >= kept) {
                kept = Math.min(kept + 1, MOST_KEYS);
                return at(kept - 1);
            }
            Key renewed = slots[known];
            for (int k = known; k + 1 < kept; k++) {
                slots[k] = slots[k + 1];
            }
            slots[kept - 1] = renewed;
            return renewed;
        }
    }

    /** KEYS that WAIT, in their order. */
    private static final class Queue {
        private final Key[] waiting = new Key[MOST_KEYS];
        private int from;
        private int to;

        void clear() {
            from = 0;
            to = 0;
        }

        int size() {
            return to - from;
        }

        void add(Key late) {
            if (to < MOST_KEYS) {
                waiting[to] = late;
                to++;
            }
        }

        Key first() {
            return from < to ? waiting[from] : null;
        }

        void drop() {
            if (from < to) {
                from++;
            }
        }
    }

    /** MASTER and TURN, TOKEN and PIN. */
    private static final class Vault {
        private static final int ALL_TRIES = 8, MOST_MISSES = 3, MAC_BLOCK = 64;

        private final Hash hash = new Hash();
        private final int[] master = new int[HASH_BYTES];
        private final int[] pin = new int[PIN_BYTES];
        private final int[] mac = new int[HASH_BYTES];
        final int[] token = new int[HASH_BYTES];
        int turn;
        int tries;
        int misses;
        boolean hasPin;

        Vault() {
            hash.begin();
            hash.put(0);
            hash.end(master);
            begin();
        }

        void changeMaster() {
            hash.begin();
            hash.putAll(master, 0, HASH_BYTES);
            hash.put(1);
            hash.end(master);
        }

        void wake() {
            misses = 0;
            fresh(token);
        }

        void fresh(int[] into) {
            hash.begin();
            hash.putAll(master, 0, HASH_BYTES);
            for (int shift = 24; shift >= 0; shift -= 8) {
                hash.put(turn >> shift);
            }
            hash.end(into);
            turn++;
        }

        void setPin(Tape tape, int name) {
            tape.copyValue(name, pin);
            hasPin = true;
            fresh(token);
        }

        int tryPin(Tape tape, int name) {
            if (!hasPin) {
                return NO_PIN;
            }
            if (tries == 0) {
                return NO_TRIES;
            }
            if (misses == MOST_MISSES) {
                return MISSED_OFTEN;
            }
            if (tape.holds(name, pin, PIN_BYTES)) {
                tries = ALL_TRIES;
                misses = 0;
                return DONE;
            }
            tries--;
            misses++;
            if (tries == 0) {
                return NO_TRIES;
            }
            return misses == MOST_MISSES ? MISSED_OFTEN : WRONG_PIN;
        }

        boolean proves(Tape tape, int name, int[] word) {
            beginMac(54);
            hash.putAll(word, 0, HASH_BYTES);
            hash.end(mac);
            beginMac(92);
            hash.putAll(mac, 0, HASH_BYTES);
            hash.end(mac);
            return tape.holds(name, mac, PROOF_BYTES);
        }

        /** As at first, but for MASTER. */
        void begin() {
            turn = 0;
            tries = ALL_TRIES;
            misses = 0;
            hasPin = false;
            fresh(token);
        }

        private void beginMac(int pad) {
            hash.begin();
            for (int i = 0; i < MAC_BLOCK; i++) {
                hash.put(i < HASH_BYTES ? token[i] ^ pad : pad);
            }
        }
    }

    /** SHA-256 of bytes that come one behind the other. */
    private static final class Hash {
        private static final int[] START = {
            0x6A09E667, 0xBB67AE85, 0x3C6EF372, 0xA54FF53A, 0x510E527F, 0x9B05688C, 0x1F83D9AB, 0x5BE0CD19};
        private static final int[] ROUNDS = {
            0x428A2F98, 0x71374491, 0xB5C0FBCF, 0xE9B5DBA5, 0x3956C25B, 0x59F111F1, 0x923F82A4, 0xAB1C5ED5,
            0xD807AA98, 0x12835B01, 0x243185BE, 0x550C7DC3, 0x72BE5D74, 0x80DEB1FE, 0x9BDC06A7, 0xC19BF174,
            0xE49B69C1, 0xEFBE4786, 0x0FC19DC6, 0x240CA1CC, 0x2DE92C6F, 0x4A7484AA, 0x5CB0A9DC, 0x76F988DA,
            0x983E5152, 0xA831C66D, 0xB00327C8, 0xBF597FC7, 0xC6E00BF3, 0xD5A79147, 0x06CA6351, 0x14292967,
            0x27B70A85, 0x2E1B2138, 0x4D2C6DFC, 0x53380D13, 0x650A7354, 0x766A0ABB, 0x81C2C92E, 0x92722C85,
            0xA2BFE8A1, 0xA81A664B, 0xC24B8B70, 0xC76C51A3, 0xD192E819, 0xD6990624, 0xF40E3585, 0x106AA070,
            0x19A4C116, 0x1E376C08, 0x2748774C, 0x34B0BCB5, 0x391C0CB3, 0x4ED8AA4A, 0x5B9CCA4F, 0x682E6FF3,
            0x748F82EE, 0x78A5636F, 0x84C87814, 0x8CC70208, 0x90BEFFFA, 0xA4506CEB, 0xBEF9A3F7, 0xC67178F2};

        private final int[] state = new int[8];
        private final int[] words = new int[64];
        private int length;

        void begin() {
            System.arraycopy(START, 0, state, 0, 8);
            length = 0;
        }

        void put(int value) {
            int place = length & 63;
            // Four bytes shift out all that the word held of the block before.
            words[place >> 2] = (words[place >> 2] << 8) | (value & 255);
            length++;
            if (place == 63) {
                mixBlock();
            }
        }

        void putAll(int[] row, int from, int n) {
            if (from < 0 || from > row.length || n > row.length - from) {
                return;
            }
            for (int i = 0; i < n; i++) {
                put(row[from + i]);
            }
        }

        void end(int[] into) {
            long bits = length * 8L;
            put(128);
            for (int i = 0; i < 64 && (length & 63) != 56; i++) {
                put(0);
            }
            for (int shift = 56; shift >= 0; shift -= 8) {
                put((int) (bits >> shift));
            }
            for (int i = 0; i < HASH_BYTES && i < into.length; i++) {
                into[i] = (state[i >> 2] >> (24 - 8 * (i & 3))) & 255;
            }
        }

        private void mixBlock() {
            for (int i = 16; i < 64; i++) {
                int early = words[i - 15];
                int late = words[i - 2];
                int earlyMix = (early >>> 7 | early << 25) ^ (early >>> 18 | early << 14) ^ (early >>> 3);
                int lateMix = (late >>> 17 | late << 15) ^ (late >>> 19 | late << 13) ^ (late >>> 10);
                words[i] = words[i - 16] + earlyMix + words[i - 7] + lateMix;
            }
            int a = state[0];
            int b = state[1];
            int c = state[2];
            int d = state[3];
            int e = state[4];
            int f = state[5];
            int g = state[6];
            int h = state[7];
            for (int i = 0; i < 64; i++) {
                int eMix = (e >>> 6 | e << 26) ^ (e >>> 11 | e << 21) ^ (e >>> 25 | e << 7);
                int aMix = (a >>> 2 | a << 30) ^ (a >>> 13 | a << 19) ^ (a >>> 22 | a << 10);
                int first = h + eMix + ((e & f) ^ (~e & g)) + ROUNDS[i] + words[i];
                int second = aMix + ((a & b) ^ (a & c) ^ (b & c));
                h = g;
                g = f;
                f = e;
                e = d + first;
                d = c;
                c = b;
                b = a;
                a = first + second;
            }
            state[0] += a;
            state[1] += b;
            state[2] += c;
            state[3] += d;
            state[4] += e;
            state[5] += f;
            state[6] += g;
            state[7] += h;
        }
    }

    /**
     * Numbers modulo a prime near 2^256, as ten limbs of 28 bits, the lowest first.
     * All limbs but the top one are 0 .. 2^28 - 1; the top one has the sign. The 280 bits leave so
     * much room that sums are not reduced: any number between -2^262 and 2^262 can be a factor.
     * Inside, a number stands for itself times 2^280, so that a product is reduced from its low end.
     */
    private static final class Field {
        private static final int LIMBS = 10, TOP = 9, BITS = 28;
        private static final long MASK = 0xFFFFFFFL;
        private static final long[] UNIT = {1, 0, 0, 0, 0, 0, 0, 0, 0, 0};

        private final long[] modulus = new long[LIMBS];
        private final long[] exponent = new long[LIMBS];
        private final long[] square = new long[LIMBS];
        private final long[] one = new long[LIMBS];
        private final long[] raised = new long[LIMBS];
        private final long lowInverse;

        /** Square is 2^560 modulo the prime, lowInverse is -1 / prime modulo 2^28. */
        Field(int[] modulusWords, int[] squareWords, long lowInverse) {
            readWords(modulus, modulusWords, 0);
            readWords(square, squareWords, 0);
            this.lowInverse = lowInverse;
            for (int i = 0; i < LIMBS; i++) {
                exponent[i] = modulus[i];
            }
            exponent[0] -= 2;
            enter(one, UNIT);
        }

        static void readWords(long[] to, int[] words, int from) {
            clear(to);
            for (int j = 0; j < 64; j++) {
                int word = from + 7 - (j >> 3);
                long nibble = word >= 0 && word < words.length ? (words[word] >> (4 * (j & 7))) & 15 : 0;
                to[j / 7] |= nibble << (4 * (j % 7));
            }
        }

        static void readBytes(long[] to, int[] row, int from) {
            clear(to);
            for (int j = 0; j < 64; j++) {
                int place = from + 31 - (j >> 1);
                long nibble = place >= 0 && place < row.length ? (row[place] >> (4 * (j & 1))) & 15 : 0;
                to[j / 7] |= nibble << (4 * (j % 7));
            }
        }

        static void writeBytes(int[] row, int from, long[] number) {
            for (int i = 0; i < 32; i++) {
                int place = from + 31 - i;
                if (place >= 0 && place < row.length) {
                    row[place] = (nibble(number, 2 * i + 1) << 4) | nibble(number, 2 * i);
                }
            }
        }

        static int bit(long[] number, int i) {
            return i >= 0 && i < 256 ? (int) (number[i / BITS] >> (i % BITS)) & 1 : 0;
        }

        static boolean same(long[] a, long[] b) {
            for (int i = 0; i < LIMBS; i++) {
                if (a[i] != b[i]) {
                    return false;
                }
            }
            return true;
        }

        static void clear(long[] number) {
            for (int i = 0; i < LIMBS; i++) {
                number[i] = 0;
            }
        }

        static void copy(long[] to, long[] from) {
            System.arraycopy(from, 0, to, 0, LIMBS);
        }

        /** To becomes a + factor * b. */
        static void plus(long[] to, long[] a, long factor, long[] b) {
            long carry = 0;
            for (int i = 0; i < TOP; i++) {
                long sum = a[i] + factor * b[i] + carry;
                to[i] = sum & MASK;
                carry = sum >> BITS;
            }
            to[TOP] = a[TOP] + factor * b[TOP] + carry;
        }

        /**
         * Each limb of a adds its row, and as much of the modulus as makes the lowest limb 0, which
         * then goes. A sum has at most 20 products below 2^56, so a long holds it.
         */
        void multiply(long[] to, long[] a, long[] b) {
            long b0 = b[0], b1 = b[1], b2 = b[2], b3 = b[3], b4 = b[4];
            long b5 = b[5], b6 = b[6], b7 = b[7], b8 = b[8], b9 = b[9];
            long[] m = modulus;
            long m0 = m[0], m1 = m[1], m2 = m[2], m3 = m[3], m4 = m[4];
            long m5 = m[5], m6 = m[6], m7 = m[7], m8 = m[8], m9 = m[9];
            long t0 = 0, t1 = 0, t2 = 0, t3 = 0, t4 = 0, t5 = 0, t6 = 0, t7 = 0, t8 = 0;
            long inverse = lowInverse;
            for (int i = 0; i < LIMBS; i++) {
                long x = a[i];
                long low = t0 + x * b0;
                long q = (low * inverse) & MASK;
                t0 = t1 + x * b1 + q * m1 + ((low + q * m0) >> BITS);
                t1 = t2 + x * b2 + q * m2;
                t2 = t3 + x * b3 + q * m3;
                t3 = t4 + x * b4 + q * m4;
                t4 = t5 + x * b5 + q * m5;
                t5 = t6 + x * b6 + q * m6;
                t6 = t7 + x * b7 + q * m7;
                t7 = t8 + x * b8 + q * m8;
                t8 = x * b9 + q * m9;
            }
            t1 += t0 >> BITS;
            t2 += t1 >> BITS;
            t3 += t2 >> BITS;
            t4 += t3 >> BITS;
            t5 += t4 >> BITS;
            t6 += t5 >> BITS;
            t7 += t6 >> BITS;
            t8 += t7 >> BITS;
            to[0] = t0 & MASK;
            to[1] = t1 & MASK;
            to[2] = t2 & MASK;
            to[3] = t3 & MASK;
            to[4] = t4 & MASK;
            to[5] = t5 & MASK;
            to[6] = t6 & MASK;
            to[7] = t7 & MASK;
            to[8] = t8 & MASK;
            to[9] = t8 >> BITS;
        }

        /** The power to the prime less 2 is the inverse; 0 stays 0. */
        void invert(long[] to, long[] a) {
            copy(raised, one);
            for (int i = 255; i >= 0; i--) {
                multiply(raised, raised, raised);
                if (bit(exponent, i) == 1) {
                    multiply(raised, raised, a);
                }
            }
            copy(to, raised);
        }

        void enter(long[] to, long[] plain) {
            multiply(to, plain, square);
        }

        /** A product with 1 lies in 0 .. modulus, and only 0 has two forms there. */
        void leave(long[] to, long[] inside) {
            multiply(to, inside, UNIT);
            if (same(to, modulus)) {
                clear(to);
            }
        }

        /** Whether a plain number that is not negative lies in 1 .. modulus - 1. */
        boolean isProper(long[] plain) {
            boolean zero = true;
            for (int i = 0; i < LIMBS; i++) {
                zero = zero && plain[i] == 0;
            }
            return !zero && isBelow(plain);
        }

        /** 1 + (seed modulo (modulus - 1)), seed being below 2^256 and so below twice that. */
        void draw(long[] to, long[] seed) {
            plus(to, seed, 1, UNIT);
            if (!isBelow(to)) {
                plus(to, to, -1, modulus);
                plus(to, to, 1, UNIT);
            }
        }

        private boolean isBelow(long[] plain) {
            for (int i = TOP; i >= 0; i--) {
                if (plain[i] != modulus[i]) {
                    return plain[i] < modulus[i];
                }
            }
            return false;
        }

        private static int nibble(long[] number, int j) {
            return j >= 0 && j < 64 ? (int) (number[j / 7] >> (4 * (j % 7))) & 15 : 0;
        }
    }

    /** The point (x / z, y / z), or none if z is 0. */
    private static final class Point {
        final long[] x = new long[Field.LIMBS];
        final long[] y = new long[Field.LIMBS];
        final long[] z = new long[Field.LIMBS];

        static Point[] row(int size) {
            Point[] points = new Point[Math.max(size, 0)];
            for (int i = 0; i < points.length; i++) {
                points[i] = new Point();
            }
            return points;
        }
    }

    /**
     * The curve, and sums and multiples of its points. A comb of a point holds at 1 .. 15 the
     * multiples by the sums of 1, 2^64, 2^128 and 2^192 that the four bits of the index tell.
     */
    private static final class Curve {
        private static final int[] P = {
            0xFFFFFFFF, 0x00000001, 0x00000000, 0x00000000, 0x00000000, 0xFFFFFFFF, 0xFFFFFFFF, 0xFFFFFFFF};
        private static final int[] P_SQUARE = {
            0x0002FFFF, 0xFFFAFFFF, 0xFFFEFFFF, 0xFFFBFFFF, 0xFFFA0000, 0x00000000, 0x00030000, 0x00050000};
        private static final int[] B = {
            0x5AC635D8, 0xAA3A93E7, 0xB3EBBD55, 0x769886BC, 0x651D06B0, 0xCC53B0F6, 0x3BCE3C3E, 0x27D2604B};
        // x and y of G, then of 2^64, 2^128 and 2^192 times G: the last three spare 192 doublings.
        private static final int[] TEETH = {
            0x6B17D1F2, 0xE12C4247, 0xF8BCE6E5, 0x63A440F2, 0x77037D81, 0x2DEB33A0, 0xF4A13945, 0xD898C296,
            0x4FE342E2, 0xFE1A7F9B, 0x8EE7EB4A, 0x7C0F9E16, 0x2BCE3357, 0x6B315ECE, 0xCBB64068, 0x37BF51F5,
            0x0FA822BC, 0x2811AAA5, 0x8492592E, 0x326E25DE, 0x29493BAA, 0xAD651F7E, 0x90E75CB4, 0x8E14DB63,
            0xBFF44AE8, 0xF5DBA80D, 0x6F4AD4BC, 0xB3DF188B, 0x34B1A650, 0x50FE82F5, 0xE4112454, 0x5F462EE7,
            0x447D739B, 0xEEDB5E67, 0xFB982FD5, 0x88C6766E, 0xFC35FF7D, 0xC297EAC3, 0x57C84FC9, 0xD789BD85,
            0x2D4825AB, 0x834131EE, 0xE12E9D95, 0x3A4AAFF7, 0x3D349B95, 0xA7FAE500, 0x0C7E33C9, 0x72E25B32,
            0xA6D39677, 0xA7849276, 0x2736FF83, 0x44315FC5, 0x96439591, 0xA3C6B94A, 0x6CF20FFB, 0x313728BE,
            0x674F8474, 0x9B0B8816, 0x66B8BABD, 0x2D27ECDF, 0x824A920C, 0x2284059B, 0xF2BAB833, 0xC357F5F4};
        private static final int COMB = 16, SPACING = 64;

        private final Field field = new Field(P, P_SQUARE, 1);
        private final long[] b = new long[Field.LIMBS];
        final Point[] base = Point.row(COMB);
        private final long[] xx = new long[Field.LIMBS];
        private final long[] yy = new long[Field.LIMBS];
        private final long[] zz = new long[Field.LIMBS];
        private final long[] xy = new long[Field.LIMBS];
        private final long[] yz = new long[Field.LIMBS];
        private final long[] xz = new long[Field.LIMBS];
        private final long[] left = new long[Field.LIMBS];
        private final long[] right = new long[Field.LIMBS];
        private final long[] term = new long[Field.LIMBS];

        Curve() {
            Field.readWords(term, B, 0);
            field.enter(b, term);
            for (int i = 0; i < 4; i++) {
                Point tooth = base[1 << i];
                Field.readWords(tooth.x, TEETH, 16 * i);
                Field.readWords(tooth.y, TEETH, 16 * i + 8);
                enter(tooth);
            }
            fillBetween(base);
        }

        /** To becomes number times the point of the comb: four bits of the number at each step. */
        void times(Point to, Point[] comb, long[] number) {
            Field.clear(to.x);
            Field.copy(to.y, field.one);
            Field.clear(to.z);
            for (int i = SPACING - 1; i >= 0; i--) {
                add(to, to, to);
                int pick = Field.bit(number, i) + 2 * Field.bit(number, i + SPACING)
                        + 4 * Field.bit(number, i + 2 * SPACING) + 8 * Field.bit(number, i + 3 * SPACING);
                if (pick != 0 && pick < comb.length) {
                    add(to, to, comb[pick]);
                }
            }
        }

        void fill(Point[] comb, int[] pointRow) {
            if (comb.length < COMB) {
                return;
            }
            Point first = comb[1];
            Field.readBytes(first.x, pointRow, 0);
            Field.readBytes(first.y, pointRow, 32);
            enter(first);
            for (int i = 1; i < 4; i++) {
                Point tooth = comb[1 << i];
                Point before = comb[1 << (i - 1)];
                add(tooth, before, before);
                for (int j = 1; j < SPACING; j++) {
                    add(tooth, tooth, tooth);
                }
            }
            fillBetween(comb);
        }

        /** X and y become plain, z is used up; none becomes (0, 0). */
        void flatten(Point point) {
            field.invert(point.z, point.z);
            field.multiply(point.x, point.x, point.z);
            field.multiply(point.y, point.y, point.z);
            field.leave(point.x, point.x);
            field.leave(point.y, point.y);
        }

        /**
         * The sum of any two points, also of equal ones, opposite ones and none, so that no case can
         * be forgotten (Renes, Costello and Batina, Complete addition formulas, 2016, algorithm 4).
         */
        void add(Point to, Point p, Point q) {
            field.multiply(xx, p.x, q.x);
            field.multiply(yy, p.y, q.y);
            field.multiply(zz, p.z, q.z);
            Field.plus(left, p.x, 1, p.y);
            Field.plus(right, q.x, 1, q.y);
            field.multiply(xy, left, right);
            Field.plus(xy, xy, -1, xx);
            Field.plus(xy, xy, -1, yy);
            Field.plus(left, p.y, 1, p.z);
            Field.plus(right, q.y, 1, q.z);
            field.multiply(yz, left, right);
            Field.plus(yz, yz, -1, yy);
            Field.plus(yz, yz, -1, zz);
            Field.plus(left, p.x, 1, p.z);
            Field.plus(right, q.x, 1, q.z);
            field.multiply(xz, left, right);
            Field.plus(xz, xz, -1, xx);
            Field.plus(xz, xz, -1, zz);
            // left, right = yy +- 3 (xz - b zz); xz = b xz - xx - 3 zz; xx = xx - zz
            field.multiply(term, b, zz);
            Field.plus(term, xz, -1, term);
            Field.plus(left, yy, 3, term);
            Field.plus(right, yy, -3, term);
            field.multiply(xz, b, xz);
            Field.plus(xz, xz, -1, xx);
            Field.plus(xz, xz, -3, zz);
            Field.plus(xx, xx, -1, zz);
            field.multiply(to.x, xy, left);
            field.multiply(term, yz, xz);
            Field.plus(to.x, to.x, -3, term);
            field.multiply(to.y, left, right);
            field.multiply(term, xx, xz);
            Field.plus(to.y, to.y, 9, term);
            field.multiply(to.z, yz, right);
            field.multiply(term, xy, xx);
            Field.plus(to.z, to.z, 3, term);
        }

        private void enter(Point point) {
            field.enter(point.x, point.x);
            field.enter(point.y, point.y);
            Field.copy(point.z, field.one);
        }

        private void fillBetween(Point[] comb) {
            for (int i = 3; i < COMB && i < comb.length; i++) {
                int lowest = i & -i;
                if (lowest != i) {
                    add(comb[i], comb[i - lowest], comb[lowest]);
                }
            }
        }
    }

    /** Makes SIGNATURES, and keeps what is needed to check the latest. */
    private static final class Signer {
        private static final int[] N = {
            0xFFFFFFFF, 0x00000000, 0xFFFFFFFF, 0xFFFFFFFF, 0xBCE6FAAD, 0xA7179E84, 0xF3B9CAC2, 0xFC632551};
        private static final int[] N_SQUARE = {
            0x83B51C1E, 0x84A3D0B1, 0xEC596190, 0x76AB51D1, 0x4956A0A7, 0xB8636A7A, 0xEA7FBC24, 0xCFB36926};
        private static final long N_LOW_INVERSE = 0xE00BC4FL;

        private final Curve curve = new Curve();
        private final Field order = new Field(N, N_SQUARE, N_LOW_INVERSE);
        private final Hash hash = new Hash();
        final int[] signature = new int[SIGNATURE_BYTES];
        int made;
        private final int[] digest = new int[HASH_BYTES];
        private final int[] owner = new int[POINT_BYTES];
        // The multiples of the owner's point are dear, and made only when something is checked.
        private final Point[] ownerComb = Point.row(Curve.COMB);
        private boolean combFilled;
        private final int[] row = new int[SIGNATURE_BYTES];
        private final Point sum = new Point();
        private final Point other = new Point();
        private final long[] d = new long[Field.LIMBS];
        private final long[] h = new long[Field.LIMBS];
        private final long[] k = new long[Field.LIMBS];
        private final long[] r = new long[Field.LIMBS];
        private final long[] s = new long[Field.LIMBS];

        void forget() {
            made = 0;
        }

        void drawSecret(Key made, int[] seed) {
            Field.readBytes(k, seed, 0);
            order.draw(d, k);
            Field.writeBytes(made.secret, 0, d);
            curve.times(sum, curve.base, d);
            curve.flatten(sum);
            Field.writeBytes(made.point, 0, sum.x);
            Field.writeBytes(made.point, 32, sum.y);
        }

        void sign(Key signing, Row data, int[] word) {
            hash.begin();
            hash.putAll(data.bytes, 0, data.length);
            hash.putAll(word, 0, HASH_BYTES);
            hash.end(digest);
            remember(signing.point);
            boolean right = false;
            for (int i = 0; i < 256 && !right; i++) {
                drawNonce(signing.secret, i);
                curve.times(sum, curve.base, k);
                curve.flatten(sum);
                solve(signing.secret);
                right = order.isProper(r) && order.isProper(s);
            }
            Field.writeBytes(signature, 0, r);
            Field.writeBytes(signature, 32, s);
            made++;
        }

        /** With bit as the other one, if there is such a bit. */
        int verdict(int bit) {
            if (made == 0) {
                return NONE;
            }
            System.arraycopy(signature, 0, row, 0, SIGNATURE_BYTES);
            if (bit >= 0 && bit < SIGNATURE_BITS) {
                row[bit >> 3] ^= 128 >> (bit & 7);
            }
            Field.readBytes(r, row, 0);
            Field.readBytes(s, row, 32);
            if (!order.isProper(r) || !order.isProper(s)) {
                return 0;
            }
            if (!combFilled) {
                curve.fill(ownerComb, owner);
                combFilled = true;
            }
            addMultiples();
            order.enter(k, sum.x);
            order.leave(k, k);
            return Field.same(k, r) ? 1 : 0;
        }

        private void remember(int[] point) {
            if (!sameBytes(owner, point, 0, POINT_BYTES)) {
                System.arraycopy(point, 0, owner, 0, POINT_BYTES);
                combFilled = false;
            }
        }

        private void drawNonce(int[] secret, int i) {
            hash.begin();
            hash.putAll(secret, 0, HASH_BYTES);
            hash.putAll(digest, 0, HASH_BYTES);
            hash.put(i);
            hash.end(row);
            Field.readBytes(s, row, 0);
            order.draw(k, s);
        }

        /** r and s, from the point k times G that sum holds. */
        private void solve(int[] secret) {
            Field.readBytes(d, secret, 0);
            Field.readBytes(h, digest, 0);
            order.enter(d, d);
            order.enter(h, h);
            order.enter(r, sum.x);
            order.multiply(s, r, d);
            Field.plus(s, s, 1, h);
            order.enter(k, k);
            order.invert(k, k);
            order.multiply(s, s, k);
            order.leave(r, r);
            order.leave(s, s);
        }

        /** Sum becomes h / s times G and r / s times the owner's point. */
        private void addMultiples() {
            order.enter(k, s);
            order.invert(k, k);
            Field.readBytes(h, digest, 0);
            order.enter(h, h);
            order.multiply(h, h, k);
            order.leave(h, h);
            order.enter(d, r);
            order.multiply(d, d, k);
            order.leave(d, d);
            curve.times(sum, curve.base, h);
            curve.times(other, ownerComb, d);
            curve.add(sum, sum, other);
            curve.flatten(sum);
        }
    }
}
