import java.util.ArrayList;
import java.util.List;

/**
 * 'What is refused changes nothing', and what only tells changes nothing: of two objects that had
 * the same calls one gets one call more; then both are asked for all that can be told of them.
 */
public final class RefusalTest extends Checks {
    private static final String RICH = "FK0K1K2K3K0RaifemRnqriaRneqaiRbgjorRcdhlsD02D12D21D31";
    /** Calls that an object may have, by the document. */
    private static final int MOST_CALLS = 512;
    /** More than are used to make a state, for the call itself, and beside those that are told. */
    private static final int CALLS_AHEAD = 120;

    private interface Call {
        long on(WireFamily x);
    }

    private enum State { FRESH, NOBODY, RICH_AND_FULL, AT_LEAST_END, AT_MOST_END }

    private static WireFamily make(State state) {
        switch (state) {
            case FRESH: return new WireFamily();
            case NOBODY: return of("F");
            case RICH_AND_FULL: return richAndFull();
            case AT_LEAST_END: return atEnd(0);
            default: return atEnd(5);
        }
    }

    /** Acts and sights are full, both slots keep something, the text is another one than the family's. */
    private static WireFamily richAndFull() {
        WireFamily x = of(RICH);
        x.draw(4, 1);
        x.change(0);
        x.join();
        x.keep(0);
        x.draw(0, 0);
        x.change(3);
        x.keep(1);
        for (int row = 0; row < 5; row++) {
            x.change(row);
        }
        x.join();
        x.draw(1, 1);
        x.draw(2, 1);
        x.change(2);
        x.draw(4, 0);
        for (int n = 0; n < 6; n++) {
            x.see(n % 5, 2);
        }
        x.seed(123456789L);
        put(x, "FK0K1K3RabcdeK");
        due("acts are full", x.about(8), 14);
        due("sights are full", x.about(9), 6);
        return x;
    }

    private static WireFamily atEnd(int place) {
        WireFamily x = ofRowAt("FK0K3RabeaaD01", place);
        x.see(1, 2);
        x.keep(1);
        for (int n = x.about(10); n < 56; n++) {
            x.write('K');
        }
        return x;
    }

    /** All that can be told of an object; it is used up by it. */
    private static final class Told {
        private final WireFamily x;
        private final List<String> answers = new ArrayList<>();

        Told(WireFamily x) {
            this.x = x;
        }

        private void add(String call, long answer) {
            answers.add(call + " = " + answer);
        }

        List<String> all() {
            asItIs();
            questions();
            seedAndYears();
            undoing();
            slot(0);
            slot(1);
            seenAndText();
            if (answers.size() > MOST_CALLS - CALLS_AHEAD) {
                wrong("too many calls: " + answers.size());
            }
            return answers;
        }

        private void asItIs() {
            for (int what = 0; what <= 10; what++) {
                add("about(" + what + ")", x.about(what));
            }
            add("fault()", x.fault());
            for (int what = 0; what <= 3; what++) {
                cells(what);
            }
            for (int kin = 0; kin < 5; kin++) {
                for (int what = 0; what <= 4; what++) {
                    add("kin(" + kin + ", " + what + ")", x.kin(kin, what));
                }
            }
            for (int half = 0; half <= 1; half++) {
                add("can(" + half + ")", x.can(half));
                for (int part = 0; part <= 3; part++) {
                    add("has(" + half + ", " + part + ")", x.has(half, part));
                }
            }
        }

        private void cells(int what) {
            int rows = x.about(0);
            for (int place = 0; place < 5 * rows; place++) {
                add("cell, place " + place + ", " + what, x.cell(place / 5, place % 5, what));
            }
        }

        private void questions() {
            for (int what = 0; what <= 1; what++) {
                add("best", x.best(what));
                add("fair", x.fair(1234, 4321, what));
                add("traces", x.traces(what));
                add("rests", x.rests(what));
                for (int deed = 0; deed < 4; deed++) {
                    add("fewest", x.fewest(deed, what));
                    add("slips", x.slips(deed, what, 3, true));
                }
                for (int kin = 0; kin < 5; kin++) {
                    add("share", x.share(kin, what, true));
                }
            }
            add("judge", x.judge(4, 20102130));
        }

        private void seedAndYears() {
            long seed = x.seed(3);
            add("seed", seed);
            add("years", x.years(12));
            x.seed(seed);
        }

        private void undoing() {
            int left = 0;
            for (int n = 0; n <= 14 && left >= 0; n++) {
                left = x.undo();
                add("undo()", left);
                add("gold", x.about(3));
                add("wire", x.about(4));
            }
            cells(0);
            cells(1);
        }

        private void slot(int slot) {
            add("again(" + slot + ")", x.again(slot));
            add("gold", x.about(3));
            add("wire", x.about(4));
            add("acts", x.about(8));
            cells(0);
        }

        private void seenAndText() {
            add("unsee()", x.unsee());
            add("traces(0)", x.traces(0));
            add("write('2')", x.write('2'));
            add("fault()", x.fault());
            add("family()", x.family());
            add("kin(3, 0)", x.kin(3, 0));
            add("kin(0, 0)", x.kin(0, 0));
            cells(0);
            add("wipe()", x.wipe());
        }
    }

    private static void same(State state, String name, WireFamily called) {
        List<String> want = new Told(make(state)).all();
        List<String> got = new Told(called).all();
        for (int at = 0; at < Math.max(want.size(), got.size()); at++) {
            String wanted = at < want.size() ? want.get(at) : "nothing";
            String gotten = at < got.size() ? got.get(at) : "nothing";
            if (!wanted.equals(gotten)) {
                wrong(state + ", behind " + name + ": " + gotten + ", due is " + wanted);
                return;
            }
        }
    }

    private static void refused(State state, String name, int want, Call call) {
        says("4 What is refused changes nothing");
        WireFamily x = make(state);
        due(state + ", " + name, call.on(x), want);
        due(state + ", once more " + name, call.on(x), want);
        same(state, name, x);
    }

    private static void tells(State state, String name, Call call) {
        WireFamily x = make(state);
        long first = call.on(x);
        due(state + ", once more " + name, call.on(x), first);
        same(state, name, x);
    }

    /** Refusals that are the same in whatever state. */
    private static void refusedAlways(State state) {
        for (int out : new int[] {-1, LEAST, MOST}) {
            refused(state, "write(" + out + ")", BAD, x -> x.write(out));
            refused(state, "about(" + out + ")", BAD, x -> x.about(out));
            refused(state, "cell(" + out + ", 0, 0)", UNKNOWN, x -> x.cell(out, 0, 0));
            refused(state, "kin(" + out + ", 0)", UNKNOWN, x -> x.kin(out, 0));
            refused(state, "has(" + out + ", 0)", BAD, x -> x.has(out, 0));
            refused(state, "has(0, " + out + ")", BAD, x -> x.has(0, out));
            refused(state, "can(" + out + ")", BAD, x -> x.can(out));
            refused(state, "draw(" + out + ", 0)", UNKNOWN, x -> x.draw(out, 0));
            refused(state, "change(" + out + ")", UNKNOWN, x -> x.change(out));
            refused(state, "best(" + out + ")", BAD, x -> x.best(out));
            refused(state, "fewest(" + out + ", 0)", UNKNOWN, x -> x.fewest(out, 0));
            refused(state, "fair(" + out + ", 0, 0)", BAD, x -> x.fair(out, 0, 0));
            refused(state, "fair(0, " + out + ", 0)", BAD, x -> x.fair(0, out, 0));
            refused(state, "fair(0, 0, " + out + ")", BAD, x -> x.fair(0, 0, out));
            refused(state, "judge(" + out + ", 0)", BAD, x -> x.judge(out, 0));
            refused(state, "judge(4, " + out + ")", BAD, x -> x.judge(4, out));
            refused(state, "share(" + out + ", 0, true)", UNKNOWN, x -> x.share(out, 0, true));
            refused(state, "see(" + out + ", 0)", UNKNOWN, x -> x.see(out, 0));
            refused(state, "traces(" + out + ")", BAD, x -> x.traces(out));
            refused(state, "rests(" + out + ")", BAD, x -> x.rests(out));
            refused(state, "slips(" + out + ", 0, 0, true)", UNKNOWN, x -> x.slips(out, 0, 0, true));
            refused(state, "years(" + out + ")", BAD, x -> x.years(out));
            refused(state, "keep(" + out + ")", UNKNOWN, x -> x.keep(out));
            refused(state, "again(" + out + ")", UNKNOWN, x -> x.again(out));
        }
        refused(state, "write(256)", BAD, x -> x.write(256));
        refused(state, "about(11)", BAD, x -> x.about(11));
        refused(state, "has(2, 0)", BAD, x -> x.has(2, 0));
        refused(state, "has(0, 4)", BAD, x -> x.has(0, 4));
        refused(state, "can(2)", BAD, x -> x.can(2));
        refused(state, "cell(5, 0, 0)", UNKNOWN, x -> x.cell(5, 0, 0));
        refused(state, "kin(5, 0)", UNKNOWN, x -> x.kin(5, 0));
        refused(state, "draw(5, 1)", UNKNOWN, x -> x.draw(5, 1));
        refused(state, "change(5)", UNKNOWN, x -> x.change(5));
        refused(state, "see(5, 0)", UNKNOWN, x -> x.see(5, 0));
        refused(state, "judge(1, 100)", BAD, x -> x.judge(1, 100));
        refused(state, "judge(0, 0)", BAD, x -> x.judge(0, 0));
        refused(state, "judge(5, 0)", BAD, x -> x.judge(5, 0));
        refused(state, "fewest(4, 0)", UNKNOWN, x -> x.fewest(4, 0));
        refused(state, "slips(4, 0, 0, true)", UNKNOWN, x -> x.slips(4, 0, 0, true));
        refused(state, "share(5, 0, true)", UNKNOWN, x -> x.share(5, 0, true));
        refused(state, "fair(10000, 0, 0)", BAD, x -> x.fair(10000, 0, 0));
        refused(state, "years(0)", BAD, x -> x.years(0));
        refused(state, "years(31)", BAD, x -> x.years(31));
        refused(state, "keep(2)", UNKNOWN, x -> x.keep(2));
        refused(state, "again(2)", UNKNOWN, x -> x.again(2));
    }

    private static void refusedByState() {
        State fresh = State.FRESH;
        refused(fresh, "family()", LATE, x -> x.family());
        refused(fresh, "undo()", LATE, x -> x.undo());
        refused(fresh, "again(0)", LATE, x -> x.again(0));
        refused(State.NOBODY, "undo()", LATE, x -> x.undo());
        refused(State.NOBODY, "again(1)", LATE, x -> x.again(1));

        State rich = State.RICH_AND_FULL;
        refused(rich, "family()", LATE, x -> x.family());
        refused(rich, "cell(0, 5, 0)", BAD, x -> x.cell(0, 5, 0));
        refused(rich, "cell(0, 0, 4)", BAD, x -> x.cell(0, 0, 4));
        refused(rich, "kin(0, 5)", BAD, x -> x.kin(0, 5));
        refused(rich, "draw(0, 2)", BAD, x -> x.draw(0, 2));
        refused(rich, "draw(1, 1), not level", LATE, x -> x.draw(1, 1));
        refused(rich, "draw(0, 0), not level", LATE, x -> x.draw(0, 0));
        refused(rich, "fewest(0, 2)", BAD, x -> x.fewest(0, 2));
        refused(rich, "share(0, 2, true)", BAD, x -> x.share(0, 2, true));
        refused(rich, "see(0, 3)", BAD, x -> x.see(0, 3));
        refused(rich, "see(0, 0)", FULL, x -> x.see(0, 0));
        refused(rich, "see(4, 2)", FULL, x -> x.see(4, 2));
        refused(rich, "slips(0, 2, 0, true)", BAD, x -> x.slips(0, 2, 0, true));
        refused(rich, "slips(0, 0, 11, true)", BAD, x -> x.slips(0, 0, 11, true));
        refused(rich, "slips(0, 0, -1, true)", BAD, x -> x.slips(0, 0, -1, true));

        for (State end : new State[] {State.AT_LEAST_END, State.AT_MOST_END}) {
            int way = end == State.AT_MOST_END ? 1 : 0;
            refused(end, "write(70)", FULL, x -> x.write(70));
            refused(end, "write(0)", FULL, x -> x.write(0));
            refused(end, "family()", LATE, x -> x.family());
            refused(end, "draw beyond", LATE, x -> x.draw(0, way));
            refused(end, "draw(0, -1)", BAD, x -> x.draw(0, -1));
            refused(end, "change(0)", LATE, x -> x.change(0));
            refused(end, "again(0)", LATE, x -> x.again(0));
        }
    }

    private static void looks(State state) {
        says("6 to 10 tell, and change nothing");
        tells(state, "fault()", x -> x.fault());
        for (int what = 0; what <= 10; what++) {
            int it = what;
            tells(state, "about(" + it + ")", x -> x.about(it));
        }
        tells(state, "cell(0, 0, 3)", x -> x.cell(0, 0, 3));
        tells(state, "kin(0, 4)", x -> x.kin(0, 4));
        tells(state, "has(1, 0)", x -> x.has(1, 0));
        tells(state, "can(1)", x -> x.can(1));
        says("2 In what follows nothing is changed");
        for (int what = 0; what <= 1; what++) {
            int it = what;
            tells(state, "best(" + it + ")", x -> x.best(it));
            tells(state, "fewest(0, " + it + ")", x -> x.fewest(0, it));
            tells(state, "fair(1111, 2222, " + it + ")", x -> x.fair(1111, 2222, it));
            tells(state, "share(0, " + it + ", true)", x -> x.share(0, it, true));
            tells(state, "traces(" + it + ")", x -> x.traces(it));
            tells(state, "rests(" + it + ")", x -> x.rests(it));
            tells(state, "slips(0, " + it + ", 5, true)", x -> x.slips(0, it, 5, true));
        }
        for (int row : new int[] {10, 20101030, 10302130, 3020}) {
            tells(state, "judge(4, " + row + ")", x -> x.judge(4, row));
        }
        says("3 YEARS: nothing changes but THE SEED");
        for (int m : new int[] {1, 2, 7, 30}) {
            tells(state, "years(" + m + ")", x -> {
                long before = x.seed(99);
                int answer = x.years(m);
                x.seed(before);
                return answer;
            });
        }
        says("25 THE SEED is v: what it was, and nothing else");
        tells(state, "seed, and back", x -> x.seed(x.seed(-7)));
    }

    /** Were there no wire by all that is seen, a sight put in the place of another would not be told. */
    private static void sightsTell() {
        WireFamily x = richAndFull();
        due("some wires are left", x.traces(0) > 0 && x.traces(0) < x.about(7) ? 1 : 0, 1);
    }

    public static void main(String[] args) {
        sightsTell();
        for (State state : State.values()) {
            refusedAlways(state);
            looks(state);
        }
        refusedByState();
        end();
    }
}
