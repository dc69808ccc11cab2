import java.util.Arrays;
import java.util.function.Supplier;

/** Looks at one NAME of a command: of which kind its VALUE is, whether it must be there, and how long it is. */
final class NameOf {
    private static final String KINDS = "rtnly";

    private final Due due;
    private final int command;
    private final int name;
    private final Supplier<MapOf> rest;
    private final int fine;

    /** The rest of the map is good, and the command gives the STATUS fine on a new fob if the NAME is good too. */
    NameOf(Due due, int command, int name, Supplier<MapOf> rest, int fine) {
        this.due = due;
        this.command = command;
        this.name = name;
        this.rest = rest;
        this.fine = fine;
    }

    private void status(String what, MapOf map, int want) {
        due.is("command " + command + ", NAME " + name + ", " + what, new Desk().send(command, map), want);
    }

    NameOf isOfKind(char kind) {
        for (char other : KINDS.toCharArray()) {
            if (other != kind) {
                status("of the kind " + other, valueOf(other), 17);
            }
        }
        if (kind != 'y') {
            status("no in its place", rest.get().flag(name, false), 17);
        }
        return this;
    }

    private MapOf valueOf(char kind) {
        byte[] bytes = Bytes.run(1, 16);
        switch (kind) {
            case 'r': return rest.get().row(name, bytes);
            case 't': return rest.get().text(name, bytes);
            case 'n': return rest.get().number(name, 1);
            case 'l': return rest.get().list(name, bytes);
            default: return rest.get().flag(name, true);
        }
    }

    void mustBeThere() {
        status("not there", rest.get().without(name), 20);
    }

    void mayBeMissing(int status) {
        status("not there", rest.get().without(name), status);
    }

    NameOf rowHas(int least, int most) {
        int[] lengths = {0, least - 1, least, most, most + 1, 255};
        for (int n : lengths) {
            status("a ROW of " + n, rest.get().row(name, Bytes.run(n, n)), isFine(n, least, most));
        }
        return this;
    }

    NameOf textHas(int least, int most) {
        int[] lengths = {0, least - 1, least, most, most + 1, 255};
        for (int n : lengths) {
            status("a TEXT of " + n, rest.get().text(name, Bytes.run(n, n)), isFine(n, least, most));
        }
        return this;
    }

    /** Each ROW of a LIST is looked at, the first and the last of fifteen too; a LIST may have none. */
    NameOf rowsOfListHave(int length) {
        status("an empty LIST", rest.get().list(name), fine);
        int[] wrong = {0, length - 1, length + 1, 24};
        int[] places = {0, 7, 14};
        byte[][] rows = new byte[15][];
        for (int place : places) {
            Arrays.fill(rows, Bytes.run(1, length));
            status("fifteen ROWS", rest.get().list(name, rows), fine);
            for (int n : wrong) {
                rows[place] = Bytes.run(1, n);
                status("a ROW of " + n + " at " + place, rest.get().list(name, rows), 3);
            }
        }
        return this;
    }

    private int isFine(int n, int least, int most) {
        return n >= least && n <= most ? fine : 3;
    }
}
