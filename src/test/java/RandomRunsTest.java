import java.util.List;
import java.util.Random;

/** Runs of as many calls as an object takes, chosen by a seed, each answer as that of Model. */
public final class RandomRunsTest {
    private static final int RUNS = 200;
    private static final String[] HOUSES = {"a", "house.example", "a house with thirty-two letters."};
    private static final String[] USERS = {"u", "user", "us", "v", "sixteen bytes 16"};
    private static final int[] EDGES = {0, 1, -1, 2, -2, 9, 10, 11, 16, 31, 32, 63, 64, 255, 400, 511, 512,
        Integer.MAX_VALUE, Integer.MIN_VALUE};

    private final Random random;
    private final Due due;
    private final Fob fob = new Fob();
    private final Model model = new Model();
    private final String name;

    private RandomRunsTest(long seed, Due due) {
        this.random = new Random(seed);
        this.due = due;
        this.name = "run " + seed + ": ";
    }

    public static void main(String[] args) {
        Due due = new Due();
        for (int seed = 1; seed <= RUNS && !due.hasFailed(); seed++) {
            RandomRunsTest run = new RandomRunsTest(seed, due);
            // One step makes at most 35 calls: a map of 400 bytes, send, and looks at what came of it.
            while (run.fob.calls() < Fob.MOST_CALLS - 35 && !due.hasFailed()) {
                run.step();
            }
        }
        due.end();
    }

    private boolean chance(int percent) {
        return random.nextInt(100) < percent;
    }

    private int edge() {
        return chance(70) ? EDGES[random.nextInt(EDGES.length)] : random.nextInt();
    }

    private void step() {
        int choice = random.nextInt(100);
        if (choice < 40) {
            command();
        } else if (choice < 56) {
            due.is(name + "touch()", fob.touch(), model.touch());
        } else if (choice < 59) {
            due.is(name + "power()", fob.power(), model.power());
        } else if (choice < 64) {
            int k = chance(80) ? random.nextInt(4) : edge();
            int v = chance(60) ? random.nextInt(5) : chance(30) ? -1 - random.nextInt(3) : edge();
            due.is(name + "advance(" + k + ", " + v + ")", fob.advance(k, v), model.advance(k, v));
        } else if (choice < 67) {
            due.is(name + "check()", fob.check(), model.check());
        } else if (choice < 70) {
            int bit = chance(70) ? random.nextInt(512) : edge();
            due.is(name + "forged(" + bit + ")", fob.forged(bit), model.forged(bit));
        } else if (choice < 74) {
            int n = chance(60) ? random.nextInt(model.tape.length + 1) : edge();
            due.is(name + "trim(" + n + ")", fob.trim(n), model.trim(n));
        } else if (choice < 78) {
            feed(edge(), random.nextInt(), edge(), random.nextInt(), random.nextInt());
        } else if (choice < 84) {
            int a = chance(60) ? random.nextInt(model.out.length + 1) : edge();
            int behind = model.out.length - Math.max(0, Math.min(a, model.out.length));
            int n = chance(60) ? random.nextInt(behind + 1) : edge();
            due.is(name + "keep(" + a + ", " + n + ")", fob.keep(a, n), model.keep(a, n));
        } else if (choice < 90) {
            out(chance(60) ? random.nextInt(model.out.length + 1) : edge());
        } else {
            key();
        }
        count(random.nextInt(12) - 1);
    }

    private void feed(int... n) {
        due.is(name + "feed", fob.feed(n[0], n[1], n[2], n[3], n[4]), model.feed(n));
    }

    private void out(int i) {
        due.is(name + "out(" + i + ")", fob.out(i), model.out(i));
    }

    private void count(int what) {
        due.is(name + "count(" + what + ")", fob.count(what), model.count(what));
    }

    private void key() {
        int k = chance(80) ? random.nextInt(1 + model.keys.size()) : edge();
        int what = chance(90) ? random.nextInt(5) : edge();
        int i = chance(70) ? random.nextInt(what == 3 ? 5 : what == 4 ? 65 : 18) : edge();
        due.is(name + "key(" + k + ", " + what + ", " + i + ")", fob.key(k, what, i), model.key(k, what, i));
    }

    private void command() {
        int[] often = {1, 1, 1, 2, 2, 2, 2, 8, 8, 6, 6, 6, 7, 3};
        int command = often[random.nextInt(often.length)];
        if (command == 7 && chance(85)) {
            command = 1;
        }
        if (!model.waits.isEmpty() && chance(60)) {
            command = 8;
        }
        if (command == 8 ? chance(20) : chance(95)) {
            due.is(name + "trim(0)", fob.trim(0), model.trim(0));
            writeTape(spoiled(map(command)));
        }
        due.is(name + "send(" + command + ")", fob.send(command), model.send(command));
        count(6);
        // A wrong SIGNATURE shows in almost any of its bytes, so that a few tell enough.
        for (int i = 0; i < 3 && model.out.length > 0; i++) {
            out(random.nextInt(model.out.length));
        }
        key();
    }

    private void writeTape(byte[] bytes) {
        for (int at = 0; at < bytes.length; at += 20) {
            int[] numbers = new int[5];
            for (int i = 0; i < 20; i++) {
                numbers[i / 4] = numbers[i / 4] << 8 | (at + i < bytes.length ? bytes[at + i] & 255 : 0);
            }
            feed(numbers);
        }
        due.is(name + "trim", fob.trim(bytes.length), model.trim(bytes.length));
    }

    private byte[] map(int command) {
        byte[] word = Bytes.run(random.nextInt(3), chance(97) ? 32 : 31);
        byte[] proof = chance(85) ? Bytes.proof(model.token, word) : Bytes.run(random.nextInt(9), chance(50) ? 16 : 17);
        String house = HOUSES[random.nextInt(HOUSES.length)];
        MapOf map = new MapOf();
        if (chance(3)) {
            map.row(1, word).text(2, word).number(3, 7);
        } else if (command == 1) {
            map.row(1, word).text(2, house).row(3, Bytes.text(USERS[random.nextInt(USERS.length)]));
            if (chance(20)) {
                map.list(5, ids());
            }
            if (model.pin != null ? chance(85) : chance(20)) {
                map.row(8, proof);
            }
        } else if (command == 2) {
            map.text(1, house).row(2, word);
            if (chance(30)) {
                map.list(3, ids());
            }
            if (chance(40)) {
                map.flag(5, chance(30));
            }
            if (model.pin != null ? chance(50) : chance(5)) {
                map.row(6, proof);
            }
        } else {
            pinPairs(map);
        }
        if (chance(20)) {
            map.number(9, random.nextInt(70000) & 0xFFFF).text(20, Bytes.run(1, random.nextInt(60)));
        }
        return map.bytes();
    }

    private void pinPairs(MapOf map) {
        int kind = chance(95) ? 1 + random.nextInt(4) : random.nextInt(300);
        map.number(1, kind);
        if (chance(kind < 3 ? 20 : 95)) {
            map.row(2, model.pin != null && chance(35) ? model.pin : Bytes.run(random.nextInt(3), 16));
        }
        if (chance(kind == 2 || kind == 3 ? 95 : 20)) {
            map.row(3, Bytes.run(random.nextInt(3), 16));
        }
    }

    private byte[][] ids() {
        byte[][] ids = new byte[random.nextInt(4)][];
        List<Model.Kept> keys = model.keys;
        for (int i = 0; i < ids.length; i++) {
            ids[i] = keys.isEmpty() || chance(30) ? Bytes.run(i, chance(90) ? 16 : 15)
                    : keys.get(random.nextInt(keys.size())).id;
        }
        return ids;
    }

    /** Now and then a map with a byte that is another, or fewer or more bytes. */
    private byte[] spoiled(byte[] map) {
        int choice = random.nextInt(100);
        if (choice < 8) {
            map[random.nextInt(map.length)] = (byte) random.nextInt(256);
        } else if (choice < 10) {
            return Bytes.part(map, 0, random.nextInt(map.length));
        } else if (choice < 12) {
            return Bytes.join(map, Bytes.run(random.nextInt(256), 1 + random.nextInt(3)));
        }
        return map;
    }
}
