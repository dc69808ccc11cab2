/** Promise 4: what holds for every command: its number, the tape, OUT, and the order of the first STATUS. */
public final class P04CommandTest {
    private static final byte[] ROW15 = Bytes.run(1, 15), ROW16 = Bytes.run(1, 16), ROW17 = Bytes.run(1, 17);
    private static final byte[] ROW31 = Bytes.run(1, 31), ROW33 = Bytes.run(1, 33);

    public static void main(String[] args) {
        Due due = new Due();
        numbers(due);
        tapeAndOut(due);
        kinds(due);
        missing(due);
        makeLengths(due);
        getAndPinLengths(due);
        order(due);
        unknownNames(due);
        due.end();
    }

    private static void numbers(Due due) {
        int[] others = {0, 3, 4, 5, 9, 10, -1, 257, Integer.MAX_VALUE, Integer.MIN_VALUE};
        for (int command : others) {
            Desk desk = new Desk();
            due.is("send(" + command + ")", desk.send(command, new MapOf().number(1, 1)), 1);
            due.is("the tape behind it", desk.fob.count(7), 0);
        }
    }

    private static void tapeAndOut(Due due) {
        Desk desk = new Desk();
        int[] commands = {1, 2, 6, 7, 8, 3};
        int[] statuses = {18, 18, 18, 39, 48, 1};
        for (int i = 0; i < commands.length; i++) {
            due.is("PIN kind 1", desk.send(Desk.PIN, new MapOf().number(1, 1)), 0);
            due.is("OUT", desk.out(), Bytes.of(0xA1, 1, 8));
            due.is("send(" + commands[i] + ")", desk.send(commands[i], Bytes.of(1, 2, 3)), statuses[i]);
            due.is("the tape is empty", desk.fob.count(7), 0);
            due.is("OUT has no bytes", desk.fob.count(6), 0);
            due.is("out(0)", desk.fob.out(0), KeyFob.NONE);
        }
        due.is("PIN kind 1", desk.send(Desk.PIN, new MapOf().number(1, 1)), 0);
        due.is("set a PIN", desk.setPin(Desk.PIN_A), 0);
        due.is("no map is told for it", desk.fob.count(6), 0);
        due.is("PIN kind 1", desk.send(Desk.PIN, new MapOf().number(1, 1)), 0);
        desk.fob.touch();
        due.is("RESET", desk.send(Desk.RESET, Bytes.of(9, 9)), 0);
        due.is("no map is told for it", desk.fob.count(6), 0);
        due.is("the tape of RESET", desk.fob.count(7), 0);
    }

    private static void kinds(Due due) {
        MapOf[] makes = {
            new MapOf().text(1, Desk.WORD), new MapOf().number(1, 1), new MapOf().list(1), new MapOf().flag(1, true),
            new MapOf().row(2, ROW16), new MapOf().number(2, 300), new MapOf().flag(2, false),
            new MapOf().text(3, "a"), new MapOf().list(3, ROW16), new MapOf().row(5, ROW16),
            new MapOf().text(5, "a"), new MapOf().number(5, 0), new MapOf().flag(5, true),
            new MapOf().text(8, ROW16), new MapOf().list(8, ROW16), new MapOf().number(8, 16)};
        for (int i = 0; i < makes.length; i++) {
            due.is("MAKE of another kind " + i, new Desk().send(Desk.MAKE, makes[i]), 17);
        }
        MapOf[] gets = {
            new MapOf().row(1, ROW16), new MapOf().number(1, 1), new MapOf().text(2, Desk.WORD), new MapOf().list(2),
            new MapOf().row(3, ROW16), new MapOf().flag(3, true), new MapOf().number(5, 0), new MapOf().number(5, 1),
            new MapOf().row(5, ROW16), new MapOf().list(5), new MapOf().text(6, ROW16), new MapOf().flag(6, false)};
        for (int i = 0; i < gets.length; i++) {
            due.is("GET of another kind " + i, new Desk().send(Desk.GET, gets[i]), 17);
        }
        MapOf[] pins = {
            new MapOf().row(1, ROW16), new MapOf().text(1, "1"), new MapOf().flag(1, true), new MapOf().list(1),
            new MapOf().number(2, 1), new MapOf().text(2, ROW16), new MapOf().list(3, ROW16),
            new MapOf().flag(3, true)};
        for (int i = 0; i < pins.length; i++) {
            due.is("PIN of another kind " + i, new Desk().send(Desk.PIN, pins[i]), 17);
        }
    }

    private static void missing(Due due) {
        byte[] word = Desk.WORD;
        due.is("MAKE without all", new Desk().send(Desk.MAKE, new MapOf()), 20);
        due.is("MAKE without 1", new Desk().send(Desk.MAKE, new MapOf().text(2, "h").row(3, ROW16)), 20);
        due.is("MAKE without 2", new Desk().send(Desk.MAKE, new MapOf().row(1, word).row(3, ROW16)), 20);
        due.is("MAKE without 3", new Desk().send(Desk.MAKE, new MapOf().row(1, word).text(2, "h")), 20);
        due.is("MAKE with no more", new Desk().send(Desk.MAKE, Desk.makeMap("h", "u")), 39);
        due.is("GET without all", new Desk().send(Desk.GET, new MapOf()), 20);
        due.is("GET without 1", new Desk().send(Desk.GET, new MapOf().row(2, word)), 20);
        due.is("GET without 2", new Desk().send(Desk.GET, new MapOf().text(1, "h")), 20);
        due.is("GET with no more", new Desk().send(Desk.GET, Desk.getMap("h")), 46);
        due.is("PIN without all", new Desk().send(Desk.PIN, new MapOf()), 20);
        due.is("PIN without 1", new Desk().send(Desk.PIN, new MapOf().row(2, ROW16).row(3, ROW16)), 20);
    }

    private static int makeWith(byte[] word, byte[] house, byte[] user) {
        return new Desk().send(Desk.MAKE, new MapOf().row(1, word).text(2, house).row(3, user));
    }

    private static void makeLengths(Due due) {
        byte[] word = Desk.WORD;
        due.is("WORD of 31", makeWith(ROW31, ROW16, ROW16), 3);
        due.is("WORD of 33", makeWith(ROW33, ROW16, ROW16), 3);
        due.is("WORD of 0", makeWith(new byte[0], ROW16, ROW16), 3);
        due.is("2 of 0", makeWith(word, new byte[0], ROW16), 3);
        due.is("2 of 1", makeWith(word, new byte[1], ROW16), 39);
        due.is("2 of 32", makeWith(word, word, ROW16), 39);
        due.is("2 of 33", makeWith(word, ROW33, ROW16), 3);
        due.is("USER of 0", makeWith(word, ROW16, new byte[0]), 3);
        due.is("USER of 1", makeWith(word, ROW16, new byte[1]), 39);
        due.is("USER of 16", makeWith(word, ROW16, ROW16), 39);
        due.is("USER of 17", makeWith(word, ROW16, ROW17), 3);
        due.is("an empty LIST", new Desk().send(Desk.MAKE, Desk.makeMap("h", "u").list(5)), 39);
        due.is("a LIST", new Desk().send(Desk.MAKE, Desk.makeMap("h", "u").list(5, ROW16, ROW16)), 39);
        due.is("a short ID", new Desk().send(Desk.MAKE, Desk.makeMap("h", "u").list(5, ROW16, ROW15)), 3);
        due.is("a long ID", new Desk().send(Desk.MAKE, Desk.makeMap("h", "u").list(5, ROW17, ROW16)), 3);
        due.is("a short PROOF", new Desk().send(Desk.MAKE, Desk.makeMap("h", "u").row(8, ROW15)), 3);
        due.is("a long PROOF", new Desk().send(Desk.MAKE, Desk.makeMap("h", "u").row(8, ROW17)), 3);
        due.is("a PROOF without a PIN", new Desk().send(Desk.MAKE, Desk.makeMap("h", "u").row(8, ROW16)), 39);
    }

    private static void getAndPinLengths(Due due) {
        byte[] word = Desk.WORD;
        due.is("1 of 0", new Desk().send(Desk.GET, new MapOf().text(1, "").row(2, word)), 3);
        due.is("1 of 32", new Desk().send(Desk.GET, new MapOf().text(1, word).row(2, word)), 46);
        due.is("1 of 33", new Desk().send(Desk.GET, new MapOf().text(1, ROW33).row(2, word)), 3);
        due.is("WORD of 31", new Desk().send(Desk.GET, new MapOf().text(1, "h").row(2, ROW31)), 3);
        due.is("WORD of 33", new Desk().send(Desk.GET, new MapOf().text(1, "h").row(2, ROW33)), 3);
        due.is("a short ID", new Desk().send(Desk.GET, Desk.getMap("h").list(3, ROW15)), 3);
        due.is("a long ID", new Desk().send(Desk.GET, Desk.getMap("h").list(3, ROW16, ROW17)), 3);
        due.is("a short PROOF", new Desk().send(Desk.GET, Desk.getMap("h").row(6, ROW15)), 3);
        due.is("a long PROOF", new Desk().send(Desk.GET, Desk.getMap("h").row(6, ROW17)), 3);
        due.is("a short OLD", new Desk().send(Desk.PIN, new MapOf().number(1, 1).row(2, ROW15)), 3);
        due.is("a long OLD", new Desk().send(Desk.PIN, new MapOf().number(1, 9).row(2, ROW17)), 3);
        due.is("a short NEW", new Desk().send(Desk.PIN, new MapOf().number(1, 2).row(3, ROW15)), 3);
        due.is("a long NEW", new Desk().send(Desk.PIN, new MapOf().number(1, 2).row(3, ROW17)), 3);
    }

    private static void order(Due due) {
        due.is("18 before 17", new Desk().send(Desk.MAKE, Bytes.join(new MapOf().number(1, 1).bytes(), new byte[1])),
                18);
        due.is("17 before 20", new Desk().send(Desk.MAKE, new MapOf().row(8, ROW15).number(9, 1)), 20);
        due.is("17 of a later NAME before 20", new Desk().send(Desk.MAKE, new MapOf().number(8, 1)), 17);
        due.is("17 of a later NAME before 3", new Desk().send(Desk.MAKE,
                new MapOf().row(1, ROW31).text(2, "h").row(3, ROW16).flag(5, true)), 17);
        due.is("20 of a later NAME before 3", new Desk().send(Desk.MAKE,
                new MapOf().row(1, ROW31).text(2, "h")), 20);
        due.is("3 before what the command says", new Desk().send(Desk.GET,
                Desk.getMap("h").list(3, ROW15).row(6, ROW16)), 3);
    }

    private static void unknownNames(Due due) {
        Desk desk = new Desk();
        desk.fob.touch();
        MapOf map = new MapOf().number(0, 65535).row(1, Desk.WORD).text(2, "h").row(3, ROW16).flag(4, true)
                .list(6, ROW15, ROW33).row(7, new byte[0]).text(9, ROW33).number(23, 24);
        due.is("MAKE with NAMES that it does not know", desk.send(Desk.MAKE, map), 0);
        desk.fob.touch();
        map = new MapOf().flag(0, false).text(1, "h").row(2, Desk.WORD).row(4, ROW33).list(7).row(8, ROW15);
        due.is("GET with NAMES that it does not know", desk.send(Desk.GET, map), 0);
        map = new MapOf().row(0, ROW15).number(1, 1).text(4, "x").flag(5, true).list(8, ROW15);
        due.is("PIN with NAMES that it does not know", desk.send(Desk.PIN, map), 0);
    }
}
