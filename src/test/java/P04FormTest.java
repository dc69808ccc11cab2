/** Promise 4: the strict form of a map, told by PIN, which answers 18 for no map and 20 for one without its NAME 1. */
public final class P04FormTest {
    private static final int MAP = 20, NO_MAP = 18;
    private static final Due DUE = new Due();

    public static void main(String[] args) {
        maps();
        names();
        numbers();
        rowsAndTexts();
        lists();
        others();
        everyHead();
        DUE.end();
    }

    private static void form(String what, int want, int... tape) {
        DUE.is(what, new Desk().send(Desk.PIN, Bytes.of(tape)), want);
    }

    private static void longValue(String what, int want, int head, int size, int there) {
        byte[] start = Bytes.of(0xA1, 5, head, size);
        DUE.is(what, new Desk().send(Desk.PIN, Bytes.join(start, new byte[there])), want);
    }

    private static void maps() {
        form("no byte", NO_MAP);
        form("no pairs", MAP, 0xA0);
        form("a byte behind it", NO_MAP, 0xA0, 0);
        form("one pair of none", NO_MAP, 0xA1);
        form("a NAME without a VALUE", NO_MAP, 0xA1, 5);
        form("one pair", MAP, 0xA1, 5, 0);
        form("one pair too few", NO_MAP, 0xA2, 5, 0);
        form("one pair too many", NO_MAP, 0xA1, 5, 0, 6, 0);
        form("a list in its place", NO_MAP, 0x80);
        form("a number in its place", NO_MAP, 0);
        form("9F", NO_MAP, 0x9F);
        form("B0", NO_MAP, 0xB0);
        form("B8", NO_MAP, 0xB8, 0);
        form("BF FF", NO_MAP, 0xBF, 0xFF);
        int[] most = new int[31];
        most[0] = 0xAF;
        for (int i = 0; i < 15; i++) {
            most[1 + 2 * i] = 9 + i;
        }
        form("15 pairs", MAP, most);
        int[] more = java.util.Arrays.copyOf(most, 33);
        more[0] = 0xB0;
        for (int i = 0; i < 16; i++) {
            more[1 + 2 * i] = 8 + i;
        }
        form("16 pairs", NO_MAP, more);
        most[0] = 0xAE;
        form("14 pairs told, 15 there", NO_MAP, most);
    }

    private static void names() {
        form("NAME 0", MAP, 0xA1, 0, 0);
        form("NAME 23", MAP, 0xA1, 23, 0);
        form("NAME 24", NO_MAP, 0xA1, 24, 0);
        form("NAME 18 18", NO_MAP, 0xA1, 0x18, 0x18, 0);
        form("NAME 255", NO_MAP, 0xA1, 255, 0);
        form("a text as a NAME", NO_MAP, 0xA1, 0x61, 65, 0);
        form("NAMES that go up", MAP, 0xA3, 0, 0, 5, 0, 23, 0);
        form("the same NAME", NO_MAP, 0xA2, 5, 0, 5, 0);
        form("NAME 0 twice", NO_MAP, 0xA2, 0, 0, 0, 0);
        form("NAMES that go down", NO_MAP, 0xA2, 6, 0, 5, 0);
    }

    private static void numbers() {
        form("23", MAP, 0xA1, 5, 23);
        form("18 without a byte", NO_MAP, 0xA1, 5, 0x18);
        form("18 and 23", NO_MAP, 0xA1, 5, 0x18, 23);
        form("18 and 24", MAP, 0xA1, 5, 0x18, 24);
        form("18 and 255", MAP, 0xA1, 5, 0x18, 255);
        form("19 without bytes", NO_MAP, 0xA1, 5, 0x19);
        form("19 with one byte", NO_MAP, 0xA1, 5, 0x19, 1);
        form("19 and 255", NO_MAP, 0xA1, 5, 0x19, 0, 255);
        form("19 and 256", MAP, 0xA1, 5, 0x19, 1, 0);
        form("19 and 65535", MAP, 0xA1, 5, 0x19, 255, 255);
        form("19 and a third byte", NO_MAP, 0xA1, 5, 0x19, 1, 0, 0);
        form("1A", NO_MAP, 0xA1, 5, 0x1A, 0, 1, 0, 0);
        form("kind 1 as a number of one byte", 0, 0xA1, 1, 1);
        form("kind 24", 2, 0xA1, 1, 0x18, 24);
        for (int low = 0; low < 256; low++) {
            form("kind 256 + " + low, 2, 0xA1, 1, 0x19, 1, low);
        }
    }

    private static void rowsAndTexts() {
        int[] heads = {0x40, 0x60};
        for (int head : heads) {
            form("no bytes", MAP, 0xA1, 5, head);
            form("one byte", MAP, 0xA1, 5, head + 1, 255);
            form("one byte of none", NO_MAP, 0xA1, 5, head + 1);
            form("one byte too many", NO_MAP, 0xA1, 5, head + 1, 0, 0);
            DUE.is("23 bytes", new Desk().send(Desk.PIN,
                    Bytes.join(Bytes.of(0xA1, 5, head + 23), new byte[23])), MAP);
            DUE.is("22 of 23 bytes", new Desk().send(Desk.PIN,
                    Bytes.join(Bytes.of(0xA1, 5, head + 23), new byte[22])), NO_MAP);
            longValue("23 in two bytes", NO_MAP, head + 0x18, 23, 23);
            longValue("24", MAP, head + 0x18, 24, 24);
            longValue("23 of 24", NO_MAP, head + 0x18, 24, 23);
            longValue("255", MAP, head + 0x18, 255, 255);
            longValue("254 of 255", NO_MAP, head + 0x18, 255, 254);
            form("a length that is not there", NO_MAP, 0xA1, 5, head + 0x18);
            form("a length of two bytes", NO_MAP, 0xA1, 5, head + 0x19, 0, 1, 0);
            form("a length without an end", NO_MAP, 0xA1, 5, head + 0x1F, 0xFF);
        }
    }

    private static void lists() {
        form("an empty LIST", MAP, 0xA1, 5, 0x80);
        form("a LIST of a ROW", MAP, 0xA1, 5, 0x81, 0x41, 7);
        form("a LIST of an empty ROW", MAP, 0xA1, 5, 0x81, 0x40);
        form("a LIST of none", NO_MAP, 0xA1, 5, 0x81);
        form("one ROW too few", NO_MAP, 0xA1, 5, 0x82, 0x40);
        form("one ROW too many", NO_MAP, 0xA1, 5, 0x81, 0x40, 0x40);
        form("a TEXT in a LIST", NO_MAP, 0xA1, 5, 0x81, 0x60);
        form("a NUMBER in a LIST", NO_MAP, 0xA1, 5, 0x81, 0);
        form("a NUMBER in a LIST that could be a NAME", NO_MAP, 0xA2, 5, 0x81, 6, 0);
        form("yes in a LIST", NO_MAP, 0xA1, 5, 0x81, 0xF5);
        form("a LIST in a LIST", NO_MAP, 0xA1, 5, 0x81, 0x80);
        form("a ROW of a wrong form in a LIST", NO_MAP, 0xA1, 5, 0x81, 0x58, 1, 0);
        form("a ROW cut off in a LIST", NO_MAP, 0xA1, 5, 0x82, 0x40, 0x42, 1);
        DUE.is("a long ROW in a LIST", new Desk().send(Desk.PIN,
                Bytes.join(Bytes.of(0xA1, 5, 0x81, 0x58, 30), new byte[30])), MAP);
        int[] most = new int[18];
        most[0] = 0xA1;
        most[1] = 5;
        most[2] = 0x8F;
        java.util.Arrays.fill(most, 3, 18, 0x40);
        form("15 ROWS", MAP, most);
        int[] more = java.util.Arrays.copyOf(most, 19);
        more[2] = 0x90;
        more[18] = 0x40;
        form("16 ROWS", NO_MAP, more);
        form("90", NO_MAP, 0xA1, 5, 0x90);
        form("98 and 16", NO_MAP, 0xA1, 5, 0x98, 16);
        form("9F and FF", NO_MAP, 0xA1, 5, 0x9F, 0xFF);
        byte[] full = Bytes.of(0xAF);
        for (int name = 9; name < 24; name++) {
            byte[] list = new byte[17];
            java.util.Arrays.fill(list, (byte) 0x40);
            list[0] = (byte) name;
            list[1] = (byte) 0x8F;
            full = Bytes.join(full, list);
        }
        Desk desk = new Desk();
        DUE.is("15 LISTS of 15 ROWS", desk.send(Desk.PIN, full), MAP);
        DUE.is("the same again", desk.send(Desk.PIN, full), MAP);
    }

    private static void others() {
        form("no", MAP, 0xA1, 5, 0xF4);
        form("yes", MAP, 0xA1, 5, 0xF5);
        form("F6", NO_MAP, 0xA1, 5, 0xF6);
        form("F3", NO_MAP, 0xA1, 5, 0xF3);
        form("a map", NO_MAP, 0xA1, 5, 0xA0);
        form("a negative number", NO_MAP, 0xA1, 5, 0x20);
        form("a tag", NO_MAP, 0xA1, 5, 0xC0, 0);
        byte[] whole = new MapOf().row(4, new byte[255]).text(6, new byte[136]).number(7, 0).bytes();
        DUE.is("a map as long as the tape", whole.length, 400);
        DUE.is("it is one", new Desk().send(Desk.PIN, whole), MAP);
        byte[] cut = new MapOf().row(4, new byte[255]).text(6, new byte[137]).number(7, 0).bytes();
        DUE.is("one that the tape cuts off", new Desk().send(Desk.PIN, Bytes.part(cut, 0, 400)), NO_MAP);
        cut = new MapOf().row(4, new byte[255]).text(6, new byte[134]).row(7, new byte[9]).bytes();
        DUE.is("one that it cuts off later", new Desk().send(Desk.PIN, Bytes.part(cut, 0, 400)), NO_MAP);
    }

    /** A VALUE of its head alone is one just for these. */
    private static void everyHead() {
        for (int head = 0; head < 256; head++) {
            boolean value = head < 24 || head == 0x40 || head == 0x60 || head == 0x80 || head == 0xF4 || head == 0xF5;
            form("a VALUE of the byte " + head, value ? MAP : NO_MAP, 0xA1, 5, head);
            form("a map of the byte " + head, head == 0xA0 ? MAP : NO_MAP, head);
        }
    }
}
