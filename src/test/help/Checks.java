import java.util.ArrayList;
import java.util.List;

/** What the tests share: answers that are not the due ones are gathered, and told at the end. */
class Checks {
    static final int UNKNOWN = -1, BAD = -2, LATE = -3, FULL = -4, NONE = -9;
    static final int LEAST = Integer.MIN_VALUE, MOST = Integer.MAX_VALUE;
    /** The longest family that there is: five rows, five kin, four deeds, in 53 bytes. */
    static final String LONGEST = "FK0K1K2K3K0RaeimqRbfjnrRcgkosRdhlptRaeimqD01D12D23D34";

    private static final List<String> wrong = new ArrayList<>();
    private static String sentence = "";

    /** The sentence of the document that the answers behind it are about. */
    static void says(String promiseAndWords) {
        sentence = promiseAndWords;
    }

    static void due(String call, long got, long want) {
        if (got != want) {
            wrong(call + " answered " + got + ", due is " + want);
        }
    }

    static void wrong(String what) {
        wrong.add(sentence.isEmpty() ? what : "[" + sentence + "] " + what);
    }

    static void put(WireFamily x, String text) {
        x.wipe();
        for (char letter : text.toCharArray()) {
            x.write(letter);
        }
    }

    static WireFamily of(String text) {
        WireFamily x = new WireFamily();
        put(x, text);
        if (x.family() < 0) {
            wrong("no family: " + text);
        }
        return x;
    }

    /** A family of one row alone, with the wire drawn to a place. */
    static WireFamily ofRowAt(String text, int place) {
        WireFamily x = of(text);
        drawTo(x, 0, 2, place);
        return x;
    }

    /** Draws one row to a place; rows beside it must let it. */
    static void drawTo(WireFamily x, int row, int from, int to) {
        int way = to > from ? 1 : 0;
        for (int at = from; at != to; ) {
            at += way == 1 ? 1 : -1;
            due("draw to " + to, x.draw(row, way), at);
        }
    }

    /** Draws all rows from 2 to one place, each by one before any goes farther. */
    static void drawAllTo(WireFamily x, int rows, int place) {
        int step = place > 2 ? 1 : -1;
        for (int at = 2; at != place; at += step) {
            for (int row = 0; row < rows; row++) {
                due("draw all to " + place, x.draw(row, step > 0 ? 1 : 0), at + step);
            }
        }
    }

    static void end() {
        for (String line : wrong) {
            System.out.println(line);
        }
        if (!wrong.isEmpty()) {
            System.exit(1);
        }
    }
}
