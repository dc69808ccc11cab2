import java.util.Arrays;

/** Terms 3: the strict form of a map, told by PIN, which answers 18 for no map and 20 for one without its NAME 1. */
public final class P04FormTest {
    private static final int MAP = 20, NO_MAP = 18;

    public static void main(String[] args) {
        Sentences.run(P04FormTest.class);
    }

    private static void form(Due due, String what, int want, int... tape) {
        due.is(what, new Desk().send(Desk.PIN, Bytes.of(tape)), want);
    }

    /** One pair, its VALUE being a start and n bytes more. */
    private static void value(Due due, String what, int want, int n, int... start) {
        byte[] tape = Bytes.join(Bytes.of(0xA1, 5), Bytes.of(start), Bytes.run(200, n));
        due.is(what, new Desk().send(Desk.PIN, tape), want);
    }

    /** Pairs of the NUMBER 0, with the highest NAMES there are. */
    private static int[] pairs(int n) {
        int[] tape = new int[1 + 2 * n];
        tape[0] = 0xA0 + n;
        for (int i = 0; i < n; i++) {
            tape[1 + 2 * i] = 24 - n + i;
        }
        return tape;
    }

    @Says("THE FORM of a map: one byte A0 + how many pairs (0 .. 15), and pairs:")
    static void howManyPairs(Due due) {
        form(due, "no byte", NO_MAP);
        for (int n = 0; n <= 15; n++) {
            form(due, n + " pairs", MAP, pairs(n));
        }
        form(due, "16 pairs", NO_MAP, pairs(16));
        form(due, "one pair of none", NO_MAP, 0xA1);
        form(due, "a NAME without a VALUE", NO_MAP, 0xA1, 5);
        for (int n = 1; n <= 15; n++) {
            int[] fewer = pairs(n);
            fewer[0] = 0xA0 + n + 1;
            form(due, n + " pairs, one more told", NO_MAP, fewer);
            int[] more = pairs(n);
            more[0] = 0xA0 + n - 1;
            form(due, n + " pairs, one fewer told", NO_MAP, more);
        }
        for (int head = 0; head < 256; head++) {
            form(due, "a tape of the byte " + head, head == 0xA0 ? MAP : NO_MAP, head);
        }
    }

    @Says("a byte, the NAME (0 .. 23, each greater than the one before),")
    static void names(Due due) {
        for (int name = 0; name < 256; name++) {
            boolean known = name >= 1 && name <= 3;
            form(due, "NAME " + name, name > 23 ? NO_MAP : known ? 17 : MAP, 0xA1, name, 0xF4);
        }
        form(due, "NAMES that go up", MAP, 0xA3, 0, 0, 5, 0, 23, 0);
        form(due, "NAMES that go up by one", MAP, 0xA2, 22, 0, 23, 0);
        form(due, "the same NAME", NO_MAP, 0xA2, 5, 0, 5, 0);
        form(due, "NAME 0 twice", NO_MAP, 0xA2, 0, 0, 0, 0);
        form(due, "NAME 23 twice", NO_MAP, 0xA2, 23, 0, 23, 0);
        form(due, "NAMES that go down", NO_MAP, 0xA2, 6, 0, 5, 0);
        form(due, "the third below the second, not the first", NO_MAP, 0xA3, 3, 0, 9, 0, 4, 0);
        form(due, "NAME 24 as 18 24", NO_MAP, 0xA1, 0x18, 0x18, 0);
        form(due, "a TEXT as a NAME", NO_MAP, 0xA1, 0x61, 65, 0);
    }

    @Says("and a VALUE: a NUMBER (0 .. 23: that byte;")
    static void smallNumbers(Due due) {
        for (int number = 0; number <= 23; number++) {
            form(due, "the NUMBER " + number, MAP, 0xA1, 5, number);
        }
        form(due, "the kind 1", 0, 0xA1, 1, 1);
        form(due, "the kind 0", 2, 0xA1, 1, 0);
        form(due, "the kind 23", 2, 0xA1, 1, 23);
    }

    @Says("else 18 and one byte, 24 .. 255;")
    static void numbersOfOneByte(Due due) {
        for (int number = 0; number < 256; number++) {
            form(due, "18 and " + number, number >= 24 ? MAP : NO_MAP, 0xA1, 5, 0x18, number);
        }
        form(due, "18 without a byte", NO_MAP, 0xA1, 5, 0x18);
        form(due, "18 with two bytes", NO_MAP, 0xA1, 5, 0x18, 24, 0);
        form(due, "the kind 1 in two bytes", NO_MAP, 0xA1, 1, 0x18, 1);
        form(due, "the kind 24", 2, 0xA1, 1, 0x18, 24);
    }

    @Says("or 19 and two, the highest first, 256 .. 65535),")
    static void numbersOfTwoBytes(Due due) {
        form(due, "0", NO_MAP, 0xA1, 5, 0x19, 0, 0);
        form(due, "24", NO_MAP, 0xA1, 5, 0x19, 0, 24);
        form(due, "255", NO_MAP, 0xA1, 5, 0x19, 0, 255);
        form(due, "256", MAP, 0xA1, 5, 0x19, 1, 0);
        form(due, "257", MAP, 0xA1, 5, 0x19, 1, 1);
        form(due, "65280", MAP, 0xA1, 5, 0x19, 255, 0);
        form(due, "65535", MAP, 0xA1, 5, 0x19, 255, 255);
        form(due, "19 without bytes", NO_MAP, 0xA1, 5, 0x19);
        form(due, "19 with one byte", NO_MAP, 0xA1, 5, 0x19, 1);
        form(due, "19 with three", NO_MAP, 0xA1, 5, 0x19, 1, 0, 0);
        form(due, "1A with four", NO_MAP, 0xA1, 5, 0x1A, 0, 1, 0, 0);
        for (int low = 0; low < 256; low++) {
            form(due, "the kind 256 + " + low, 2, 0xA1, 1, 0x19, 1, low);
        }
        form(due, "the kind 1024", 2, 0xA1, 1, 0x19, 4, 0);
        form(due, "the kind 1 in three bytes", NO_MAP, 0xA1, 1, 0x19, 0, 1);
    }

    private static void shortBytes(Due due, int head) {
        for (int n = 0; n <= 23; n++) {
            value(due, n + " bytes", MAP, n, head + n);
            value(due, n + " bytes and one more", NO_MAP, n + 1, head + n);
            if (n > 0) {
                value(due, n + " bytes but one", NO_MAP, n - 1, head + n);
            }
        }
    }

    private static void longBytes(Due due, int head) {
        int[] lengths = {24, 25, 100, 254, 255};
        for (int n : lengths) {
            value(due, n + " bytes", MAP, n, head, n);
            value(due, n + " bytes and one more", NO_MAP, n + 1, head, n);
            value(due, n + " bytes but one", NO_MAP, n - 1, head, n);
        }
        for (int n = 0; n <= 23; n++) {
            value(due, n + " bytes that have a shorter form", NO_MAP, n, head, n);
        }
        value(due, "a length that is not there", NO_MAP, 0, head);
        value(due, "a length of two bytes", NO_MAP, 256, head + 1, 1, 0);
        value(due, "a length without an end", NO_MAP, 0, head + 7, 0xFF);
    }

    @Says("a ROW (40 + its length, 0 .. 23,")
    static void shortRows(Due due) {
        shortBytes(due, 0x40);
        form(due, "OLD is one", 3, 0xA2, 1, 1, 2, 0x40);
    }

    @Says("or 58 and its length as one byte, 24 .. 255; then its bytes),")
    static void longRows(Due due) {
        longBytes(due, 0x58);
        byte[] word = Desk.WORD;
        due.is("the WORD is one", new Desk().send(Desk.MAKE, Desk.makeMap("h", "u").row(1, word)), 39);
    }

    @Says("a TEXT (60, 78 likewise),")
    static void texts(Due due) {
        shortBytes(due, 0x60);
        longBytes(due, 0x78);
        form(due, "OLD is none", 17, 0xA2, 1, 1, 2, 0x60);
    }

    private static int[] emptyRows(int n) {
        int[] tape = new int[3 + n];
        Arrays.fill(tape, 0x40);
        tape[0] = 0xA1;
        tape[1] = 5;
        tape[2] = 0x80 + n;
        return tape;
    }

    @Says("a LIST of ROWS (80 + how many, 0 .. 15; then these),")
    static void lists(Due due) {
        for (int n = 0; n <= 15; n++) {
            int[] tape = emptyRows(n);
            form(due, n + " ROWS", MAP, tape);
            int[] more = Arrays.copyOf(tape, n + 4);
            more[n + 3] = 0x40;
            form(due, n + " ROWS and one more", NO_MAP, more);
            if (n > 0) {
                form(due, n + " ROWS but one", NO_MAP, Arrays.copyOf(tape, n + 2));
            }
        }
        form(due, "16 ROWS", NO_MAP, emptyRows(16));
        form(due, "98 and how many", NO_MAP, 0xA1, 5, 0x98, 16);
        form(due, "9F and FF", NO_MAP, 0xA1, 5, 0x9F, 0xFF);
        value(due, "a ROW of 23", MAP, 23, 0x81, 0x57);
        value(due, "a ROW of 23 in two bytes", NO_MAP, 23, 0x81, 0x58, 23);
        value(due, "a ROW of 24", MAP, 24, 0x81, 0x58, 24);
        value(due, "a ROW of 255", MAP, 255, 0x81, 0x58, 255);
        value(due, "a ROW of 255 but one", NO_MAP, 254, 0x81, 0x58, 255);
        value(due, "a ROW with a length of two bytes", NO_MAP, 256, 0x81, 0x59, 1, 0);
        for (int head = 0; head < 256; head++) {
            form(due, "a LIST of the byte " + head, head == 0x40 ? MAP : NO_MAP, 0xA1, 5, 0x81, head);
        }
        form(due, "a TEXT in a LIST", NO_MAP, 0xA1, 5, 0x82, 0x40, 0x61, 65);
        form(due, "a NUMBER in a LIST that could be a NAME", NO_MAP, 0xA2, 5, 0x81, 6, 0);
        byte[] most = Bytes.of(0xAF);
        for (int name = 9; name < 24; name++) {
            byte[] list = Bytes.part(Bytes.of(emptyRows(15)), 1, 17);
            list[0] = (byte) name;
            most = Bytes.join(most, list);
        }
        Desk desk = new Desk();
        due.is("15 LISTS of 15 ROWS", desk.send(Desk.PIN, most), MAP);
        due.is("the same again", desk.send(Desk.PIN, most), MAP);
    }

    @Says("or F4 (no), F5 (yes).")
    static void noAndYes(Due due) {
        int[] others = {0xF0, 0xF3, 0xF6, 0xF7, 0xF8, 0xFF, 0xE0, 0xE4, 0xE5, 0xD4, 0xD5};
        form(due, "no", MAP, 0xA1, 5, 0xF4);
        form(due, "yes", MAP, 0xA1, 5, 0xF5);
        form(due, "no with a byte more", NO_MAP, 0xA1, 5, 0xF4, 0);
        for (int other : others) {
            form(due, "the byte " + other, NO_MAP, 0xA1, 5, other);
        }
        Desk desk = Desk.with("h", "u");
        due.is("F5 does not waive", desk.send(Desk.GET, Desk.getMap("h").value(5, 0xF5)), 39);
        due.is("F4 waives", desk.send(Desk.GET, Desk.getMap("h").value(5, 0xF4)), 0);
    }

    /** A VALUE of one byte alone is one just for these. */
    @Says("(All bytes told here in hexadecimals, two digits; lengths and numbers in decimals.)")
    static void everyHead(Due due) {
        for (int head = 0; head < 256; head++) {
            boolean whole = head < 24 || head == 0x40 || head == 0x60 || head == 0x80 || head == 0xF4 || head == 0xF5;
            form(due, "a VALUE of the byte " + head, whole ? MAP : NO_MAP, 0xA1, 5, head);
            boolean one = head == 0x18 || head == 0x41 || head == 0x61;
            form(due, "a VALUE of " + head + " and 30", one ? MAP : NO_MAP, 0xA1, 5, head, 30);
        }
        value(due, "58 and 24 and as many bytes", MAP, 24, 0x58, 24);
        value(due, "78 and 24 and as many bytes", MAP, 24, 0x78, 24);
    }

    @Says("Nothing may stand behind it.")
    static void nothingBehind(Due due) {
        for (int behind = 0; behind < 256; behind++) {
            form(due, behind + " behind a map", NO_MAP, 0xA1, 1, 1, behind);
        }
        form(due, "a byte behind an empty map", NO_MAP, 0xA0, 0);
        form(due, "a map behind a map", NO_MAP, 0xA0, 0xA0);
        byte[] whole = new MapOf().row(4, new byte[255]).text(6, new byte[136]).number(7, 0).bytes();
        due.is("a map as long as the tape", whole.length, 400);
        due.is("it is one", new Desk().send(Desk.PIN, whole), MAP);
        byte[] shorter = new MapOf().row(4, new byte[255]).text(6, new byte[135]).number(7, 0).bytes();
        due.is("one byte more", new Desk().send(Desk.PIN, Bytes.join(shorter, new byte[1])), NO_MAP);
        byte[] longer = new MapOf().row(4, new byte[255]).text(6, new byte[134]).row(7, new byte[9]).bytes();
        due.is("one that the end of the tape cuts off", new Desk().send(Desk.PIN, Bytes.part(longer, 0, 400)), NO_MAP);
    }

    /** Behind byte 400 there is none to read, whatever the map asks for there. */
    @Says("Nothing may stand behind it.")
    static void mapsThatEndWithTheTape(Due due) {
        int[][] ends = {{}, {9}, {9, 0x18}, {9, 0x19}, {9, 0x19, 1}, {9, 0x41}, {9, 0x58}, {9, 0x58, 24}, {9, 0x61},
            {9, 0x78}, {9, 0x81}, {9, 0x82, 0x40}, {9, 0x81, 0x41}, {9, 0x81, 0x58}, {9, 0x81, 0x58, 24}};
        for (int[] end : ends) {
            byte[] tape = Bytes.join(new MapOf().row(4, new byte[255]).text(6, new byte[138 - end.length]).bytes(),
                    Bytes.of(end));
            due.is("a tape", tape.length, 400);
            due.is("a map that ends there, " + end.length + " bytes too many", new Desk().send(Desk.PIN, tape),
                    end.length == 0 ? MAP : NO_MAP);
            tape[0]++;
            due.is("a map that would go on, with " + end.length + " bytes of a pair", new Desk().send(Desk.PIN, tape),
                    NO_MAP);
        }
    }
}
