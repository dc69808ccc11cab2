import java.util.function.Supplier;

/** Terms 4: what holds for every command: the tape, OUT, and what is looked at before what the command says. */
public final class P04CommandTest {
    private static final byte[] ROW15 = Bytes.run(1, 15), ROW16 = Bytes.run(1, 16), ROW17 = Bytes.run(1, 17);
    private static final byte[] ROW33 = Bytes.run(1, 33);

    public static void main(String[] args) {
        Sentences.run(P04CommandTest.class);
    }

    private static MapOf makeMap() {
        return Desk.makeMap("h", "u");
    }

    private static MapOf getMap() {
        return Desk.getMap("h");
    }

    private static MapOf pinMap() {
        return new MapOf().number(1, 1);
    }

    @Says("COMMANDS. THE TAPE is the map of a command, and empty then (also of those without a map).")
    static void tapeIsEmptyThen(Due due) {
        int[] refused = {1, 2, 6, 7, 8, 3, 0, 9, -1};
        for (int command : refused) {
            Desk desk = new Desk();
            due.holds(command + " is refused", desk.send(command, Bytes.of(1, 2, 3)) != 0);
            due.is("the tape behind " + command, desk.fob.count(7), 0);
        }
        Desk desk = new Desk();
        desk.fob.touch();
        due.is("MAKE", desk.send(Desk.MAKE, makeMap()), 0);
        due.is("the tape behind MAKE", desk.fob.count(7), 0);
        due.is("MAKE of another USER", desk.make("h", "v"), 0);
        due.is("GET", desk.get("h"), 0);
        due.is("the tape behind GET", desk.fob.count(7), 0);
        due.is("NEXT", desk.send(Desk.NEXT, Bytes.of(1, 2, 3)), 0);
        due.is("the tape behind NEXT", desk.fob.count(7), 0);
        due.is("PIN", desk.send(Desk.PIN, pinMap()), 0);
        due.is("the tape behind PIN", desk.fob.count(7), 0);
        desk.fob.touch();
        due.is("RESET", desk.send(Desk.RESET, Bytes.of(9, 9)), 0);
        due.is("the tape behind RESET", desk.fob.count(7), 0);
        due.is("PIN has no map then", desk.fob.send(Desk.PIN), 18);
    }

    @Says("The answer is a STATUS; OUT becomes a map in the FORM, if that is 0 and one is told, else no bytes.")
    static void outBecomesAMapOrNoBytes(Due due) {
        int[] commands = {1, 2, 6, 7, 8, 3};
        int[] statuses = {18, 18, 18, 39, 48, 1};
        for (int i = 0; i < commands.length; i++) {
            Desk desk = new Desk();
            due.is("PIN kind 1", desk.send(Desk.PIN, pinMap()), 0);
            due.is("OUT", desk.out(), Bytes.of(0xA1, 1, 8));
            due.is("a refused " + commands[i], desk.fob.send(commands[i]), statuses[i]);
            due.is("bytes of OUT", desk.fob.count(6), 0);
            due.is("out(0)", desk.fob.out(0), KeyFob.NONE);
        }
        Desk desk = new Desk();
        desk.send(Desk.PIN, pinMap());
        due.is("PIN kind 2", desk.setPin(Desk.PIN_A), 0);
        due.is("no map is told for kind 2", desk.fob.count(6), 0);
        due.is("PIN kind 4", desk.tryPin(Desk.PIN_A), 0);
        due.is("a map is told for kind 4", desk.fob.count(6), 36);
        due.is("PIN kind 3", desk.changePin(Desk.PIN_A, Desk.PIN_B), 0);
        due.is("no map is told for kind 3", desk.fob.count(6), 0);
        desk.send(Desk.PIN, pinMap());
        desk.fob.touch();
        due.is("RESET", desk.fob.send(Desk.RESET), 0);
        due.is("no map is told for RESET", desk.fob.count(6), 0);
    }

    @Says("1 there is no such command.")
    static void noSuchCommand(Due due) {
        int[] others = {0, 3, 4, 5, 9, 10, 11, 255, 256, 257, 258, 262, -1, -2, -8, Integer.MAX_VALUE,
            Integer.MIN_VALUE, Integer.MIN_VALUE + 1, 0x10006};
        for (int command : others) {
            due.is("send(" + command + ")", new Desk().send(command, pinMap()), 1);
            due.is("send(" + command + ") of an empty tape", new Desk().fob.send(command), 1);
        }
    }

    @Says("18 (a command with a map) the tape is no map.")
    static void noMap(Due due) {
        int[] withMap = {Desk.MAKE, Desk.GET, Desk.PIN};
        for (int command : withMap) {
            due.is(command + " of an empty tape", new Desk().fob.send(command), 18);
            due.is(command + " of a byte that is no map", new Desk().send(command, Bytes.of(0)), 18);
            due.is(command + " of an empty map", new Desk().send(command, new MapOf()), 20);
        }
        due.is("MAKE with a byte too many", new Desk().send(Desk.MAKE, Bytes.join(makeMap().bytes(), new byte[1])), 18);
        due.is("RESET does not look", new Desk().fob.send(Desk.RESET), 39);
        due.is("NEXT does not look", new Desk().fob.send(Desk.NEXT), 48);
    }

    private static void kinds(Due due, int command, Supplier<MapOf> map, String names) {
        for (String name : names.split(" ")) {
            new NameOf(due, command, name.charAt(0) - '0', map, 0).isOfKind(name.charAt(1));
        }
    }

    @Says("17 a VALUE of a NAME that the command knows is of another kind (told as r ROW, t TEXT, n NUMBER, l LIST, "
            + "y yes or no).")
    static void anotherKind(Due due) {
        kinds(due, Desk.MAKE, P04CommandTest::makeMap, "1r 2t 3r 5l 8r");
        kinds(due, Desk.GET, P04CommandTest::getMap, "1t 2r 3l 5y 6r");
        kinds(due, Desk.PIN, P04CommandTest::pinMap, "1n 2r 3r");
    }

    @Says("20 a NAME that must be there (told with !) is not.")
    static void notThere(Due due) {
        int[][] must = {{Desk.MAKE, 1}, {Desk.MAKE, 2}, {Desk.MAKE, 3}, {Desk.GET, 1}, {Desk.GET, 2}, {Desk.PIN, 1}};
        for (int[] each : must) {
            MapOf map = each[0] == Desk.MAKE ? makeMap() : each[0] == Desk.GET ? getMap() : pinMap();
            due.is(each[0] + " without " + each[1], new Desk().send(each[0], map.without(each[1])), 20);
        }
        due.is("MAKE without others", new Desk().send(Desk.MAKE, makeMap()), 39);
        due.is("GET without others", new Desk().send(Desk.GET, getMap()), 46);
        due.is("PIN without others", new Desk().send(Desk.PIN, pinMap()), 0);
        MapOf others = new MapOf().number(0, 0).list(5, ROW16).row(8, ROW16);
        due.is("MAKE with others alone", new Desk().send(Desk.MAKE, others), 20);
    }

    @Says("3 a ROW, TEXT or a ROW in a LIST has not the length told.")
    static void wrongLength(Due due) {
        due.is("a ROW", new Desk().send(Desk.MAKE, makeMap().row(1, ROW33)), 3);
        due.is("a TEXT", new Desk().send(Desk.MAKE, makeMap().text(2, ROW33)), 3);
        due.is("a ROW in a LIST", new Desk().send(Desk.MAKE, makeMap().list(5, ROW16, ROW17)), 3);
        due.is("a ROW of GET", new Desk().send(Desk.GET, getMap().row(2, ROW33)), 3);
        due.is("a TEXT of GET", new Desk().send(Desk.GET, getMap().text(1, ROW33)), 3);
        due.is("a ROW in a LIST of GET", new Desk().send(Desk.GET, getMap().list(3, ROW15, ROW16)), 3);
        due.is("a ROW of PIN that its kind does not use", new Desk().send(Desk.PIN, pinMap().row(2, ROW15)), 3);
        due.is("two LISTS, one unknown", new Desk().send(Desk.MAKE, makeMap().list(4, ROW15).list(5, ROW16)), 39);
        due.is("two LISTS, the known one wrong", new Desk().send(Desk.MAKE,
                makeMap().list(4, ROW16).list(5, ROW15).list(6, ROW16)), 3);
    }

    @Says("The first of these that holds is the STATUS:")
    static void firstThatHolds(Due due) {
        byte[] wrongKind = new MapOf().number(1, 1).bytes();
        due.is("1 before 18", new Desk().send(9, Bytes.of(0)), 1);
        due.is("18 before 17", new Desk().send(Desk.MAKE, Bytes.join(wrongKind, new byte[1])), 18);
        due.is("18 of a later byte before 17", new Desk().send(Desk.MAKE, Bytes.of(0xA2, 1, 1, 2, 0x61)), 18);
        due.is("17 of the last NAME before 20 of the first", new Desk().send(Desk.MAKE,
                makeMap().without(1).number(8, 1)), 17);
        due.is("17 of the first NAME before 20 of the last", new Desk().send(Desk.MAKE,
                makeMap().number(1, 1).without(3)), 17);
        due.is("17 of the last NAME before 3 of the first", new Desk().send(Desk.MAKE,
                makeMap().row(1, ROW33).number(8, 1)), 17);
        due.is("17 of the first NAME before 3 of the last", new Desk().send(Desk.MAKE,
                makeMap().number(1, 1).row(8, ROW15)), 17);
        due.is("20 of the last NAME before 3 of the first", new Desk().send(Desk.MAKE,
                makeMap().row(1, ROW33).without(3)), 20);
        due.is("20 of the first NAME before 3 of the last", new Desk().send(Desk.MAKE,
                makeMap().without(1).row(8, ROW15)), 20);
    }

    @Says("Then as each command says.")
    static void makeSaysThen(Due due) {
        Desk desk = Desk.with("h", "u");
        byte[] id = Desk.id(1);
        desk.setPin(Desk.PIN_A);
        due.is("3 before 25", desk.send(Desk.MAKE, makeMap().list(5, id, ROW15)), 3);
        due.is("25 before 54", desk.send(Desk.MAKE, makeMap().list(5, id)), 25);
        due.is("25 before 51", desk.send(Desk.MAKE, makeMap().list(5, id).row(8, ROW16)), 25);
        due.is("54 before 39", desk.send(Desk.MAKE, makeMap()), 54);
        due.is("51 before 39", desk.send(Desk.MAKE, makeMap().row(8, ROW16)), 51);
        due.is("39", desk.send(Desk.MAKE, makeMap().row(8, Desk.proof(2))), 39);
    }

    @Says("Then as each command says.")
    static void makeOfAFullFobSaysThen(Due due) {
        Desk desk = Desk.with("h", "abcdefghij");
        byte[] id = Desk.id(3);
        due.is("25 before 40", desk.send(Desk.MAKE, makeMap().list(5, id)), 25);
        due.is("40 before 39", desk.send(Desk.MAKE, makeMap()), 40);
        desk.setPin(Desk.PIN_A);
        due.is("54 before 40", desk.send(Desk.MAKE, makeMap()), 54);
        due.is("51 before 40", desk.send(Desk.MAKE, makeMap().row(8, ROW16)), 51);
        due.is("40 before 39 with PROOF", desk.send(Desk.MAKE, makeMap().row(8, Desk.proof(11))), 40);
    }

    @Says("Then as each command says.")
    static void getSaysThen(Due due) {
        Desk desk = new Desk();
        due.is("3 before 51", desk.send(Desk.GET, getMap().list(3, ROW15).row(6, ROW16)), 3);
        due.is("51 before 46", desk.send(Desk.GET, getMap().row(6, ROW16)), 51);
        due.is("46 before 39", desk.send(Desk.GET, getMap()), 46);
        desk.make("h", "u");
        desk.fob.advance(0, -1);
        due.is("51 before 39", desk.send(Desk.GET, getMap().row(6, ROW16)), 51);
        due.is("51 before 127", desk.send(Desk.GET, getMap().flag(5, false).row(6, ROW16)), 51);
        due.is("39 before 127", desk.send(Desk.GET, getMap()), 39);
        due.is("127", desk.send(Desk.GET, getMap().flag(5, false)), 127);
    }

    @Says("Then as each command says.")
    static void pinSaysThen(Due due) {
        Desk desk = new Desk();
        due.is("3 before 2", desk.send(Desk.PIN, new MapOf().number(1, 9).row(3, ROW15)), 3);
        due.is("2 before 20", desk.send(Desk.PIN, new MapOf().number(1, 5)), 2);
        due.is("20 before 53 of kind 3", desk.send(Desk.PIN, new MapOf().number(1, 3).row(2, ROW16)), 20);
        due.is("20 before 53 of kind 4", desk.send(Desk.PIN, new MapOf().number(1, 4).row(3, ROW16)), 20);
        desk.setPin(Desk.PIN_A);
        due.is("20 before 51", desk.send(Desk.PIN, new MapOf().number(1, 2).row(2, Desk.PIN_A)), 20);
        due.is("20 before 49", desk.send(Desk.PIN, new MapOf().number(1, 3).row(2, ROW16)), 20);
        due.is("no try was taken", desk.fob.count(1), 8);
    }

    @Says("(NAMES that it does not know may be there, whatever their VALUE.)")
    static void unknownNames(Due due) {
        Desk desk = new Desk();
        desk.fob.touch();
        MapOf map = makeMap().number(0, 65535).flag(4, true).list(6, ROW15, ROW33).row(7, new byte[0])
                .text(9, ROW33).number(10, 0).flag(11, false).list(12).number(23, 24);
        due.is("MAKE", desk.send(Desk.MAKE, map), 0);
        due.is("KEYS", desk.fob.count(0), 1);
        desk.fob.touch();
        map = getMap().flag(0, false).row(4, ROW33).list(7, ROW15).row(8, ROW15).text(9, new byte[0]).number(23, 256);
        due.is("GET", desk.send(Desk.GET, map), 0);
        map = pinMap().row(0, ROW15).text(4, "x").flag(5, true).list(8, ROW15).number(22, 255);
        due.is("PIN", desk.send(Desk.PIN, map), 0);
        due.is("a VALUE of no form", desk.send(Desk.PIN, pinMap().value(9, 0xF6)), 18);
    }
}
