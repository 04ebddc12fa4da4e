import java.math.BigInteger;

/** The edges of what was seen, of those who pull, of chances, years and slots: promises 20 to 28. */
public final class EdgeChanceTest extends Checks {
    private static final long TIMES = 6364136223846793005L, AND = 1442695040888963407L;
    private static final int[] OUT = {-1, -2, LEAST, MOST};
    /** One row of five kin: column by column kin 0, 1, 2, 3, 4. */
    private static final String ALL_KIN = "FK0K0K0K0K0Raeimq";

    private static void seeArguments() {
        says("20 UNKNOWN");
        WireFamily x = of(ALL_KIN);
        due("kin 5", x.see(5, 0), UNKNOWN);
        due("nobody there", of("F").see(0, 0), UNKNOWN);
        due("kin 1 of one", of("FK0").see(1, 0), UNKNOWN);
        says("20 BAD: side (0 .. 2)");
        due("side 3", x.see(0, 3), BAD);
        for (int out : OUT) {
            due("kin " + out, x.see(out, 0), UNKNOWN);
            due("side " + out, x.see(0, out), BAD);
        }
        says("20 UNKNOWN is told ahead of BAD");
        due("see(5, 3)", x.see(5, 3), UNKNOWN);
        due("see(-1, -1)", x.see(-1, -1), UNKNOWN);
        says("20 what is refused changes nothing");
        due("seen", x.about(9), 0);
        due("traces", x.traces(0), 6);
        says("20 SEEN: how many there are, the last KIN and the last side too");
        due("see(0, 0)", x.see(0, 0), 1);
        due("see(4, 1)", x.see(4, 1), 2);
        due("see(4, 2)", x.see(4, 2), 3);
        due("a KIN without CELLS", of("FK0").see(0, 2), 1);
    }

    private static void fullSeen() {
        says("3 SEEN: 6 such at most; 20 FULL: 6");
        WireFamily x = of(ALL_KIN);
        for (int n = 1; n <= 5; n++) {
            due("see", x.see(0, 0), n);
        }
        due("the sixth", x.see(1, 0), 6);
        due("the seventh", x.see(4, 0), FULL);
        due("the seventh, the same", x.see(0, 0), FULL);
        says("20 FULL: what is refused changes nothing");
        due("seen", x.about(9), 6);
        due("traces(0)", x.traces(0), 4);
        due("traces(1)", x.traces(1), 12);
        says("20 UNKNOWN and BAD are told ahead of FULL");
        due("see(5, 0)", x.see(5, 0), UNKNOWN);
        due("see(5, 3)", x.see(5, 3), UNKNOWN);
        due("see(0, 3)", x.see(0, 3), BAD);
        says("21 Nothing is SEEN: how much there was");
        due("unsee()", x.unsee(), 6);
        due("seen", x.about(9), 0);
        due("unsee(), nothing there", x.unsee(), 0);
        due("traces(0)", x.traces(0), 6);
        due("see anew", x.see(4, 0), 1);
        due("traces(1)", x.traces(1), 15);
        due("unsee() of one", x.unsee(), 1);
    }

    private static void traces(WireFamily x, int howMany, int first) {
        due("traces(0)", x.traces(0), howMany);
        due("traces(1)", x.traces(1), first);
    }

    private static WireFamily seen(String text, int kin, int side) {
        WireFamily x = of(text);
        due("see", x.see(kin, side), 1);
        return x;
    }

    private static void tracesOf() {
        says("22 BAD");
        for (WireFamily x : new WireFamily[] {new WireFamily(), of(LONGEST)}) {
            due("traces(2)", x.traces(2), BAD);
            for (int out : OUT) {
                due("traces(" + out + ")", x.traces(out), BAD);
            }
        }
        says("3 SEEN: none at first");
        traces(of(ALL_KIN), 6, 10);
        traces(of(LONGEST), 340, 100000);
        says("3 SEEN in the LEFT half alone (0)");
        traces(seen("FK0Raaaaa", 0, 0), 1, 15);
        traces(seen(ALL_KIN, 2, 0), 3, 13);
        traces(seen(ALL_KIN, 4, 0), 1, 15);
        says("3 SEEN in the RIGHT one alone (1)");
        traces(seen("FK0Raaaaa", 0, 1), 1, 10);
        traces(seen(ALL_KIN, 2, 1), 3, 10);
        traces(seen(ALL_KIN, 0, 1), 1, 10);
        says("3 SEEN in both (2)");
        traces(seen("FK0Raaaaa", 0, 2), 4, 11);
        traces(seen(ALL_KIN, 2, 2), 0, NONE);
        traces(seen("FK0K0ReaaaaRaaaae", 1, 2), 12, 110);
        says("3 KIN without CELLS: none of these");
        for (int side = 0; side <= 2; side++) {
            traces(seen("FK0K0Raaaaa", 1, side), 0, NONE);
            traces(seen("FK0", 0, side), 0, NONE);
        }
        says("3 SEEN: an AUNT by where her CELLS are, not by where they COUNT");
        traces(seen("FK1Raaaaa", 0, 0), 1, 15);
        traces(seen("FK3Raaaaa", 0, 2), 4, 11);
    }

    private static void tracesOfAll() {
        says("3 TRACES: all that is SEEN is so");
        WireFamily x = of(ALL_KIN);
        x.see(1, 0);
        traces(x, 4, 12);
        x.see(3, 1);
        traces(x, 2, 12);
        x.see(2, 1);
        traces(x, 1, 12);
        x.see(2, 0);
        traces(x, 0, NONE);
        says("3 TRACES: CELLS being as they are");
        WireFamily changed = seen(ALL_KIN, 1, 0);
        changed.change(0);
        traces(changed, 3, 13);
        changed.undo();
        traces(changed, 4, 12);
        says("3 of KIN that there are not any more nothing is looked at");
        WireFamily gone = seen(ALL_KIN, 4, 2);
        traces(gone, 0, NONE);
        put(gone, "FK0K0K0K0Raeimm");
        gone.family();
        traces(gone, 6, 10);
        due("still seen", gone.about(9), 1);
        put(gone, "FK0K0K0K0K0Raqaqa");
        gone.family();
        traces(gone, 2, 12);
    }

    private static void rests(WireFamily x, int howMany, int least) {
        due("rests(0)", x.rests(0), howMany);
        due("rests(1)", x.rests(1), least);
    }

    private static WireFamily rowsAt(String text, int rows, int place) {
        WireFamily x = of(text);
        drawAllTo(x, rows, place);
        return x;
    }

    private static void restsOf() {
        says("23 BAD");
        for (WireFamily x : new WireFamily[] {new WireFamily(), of(LONGEST)}) {
            due("rests(2)", x.rests(2), BAD);
            for (int out : OUT) {
                due("rests(" + out + ")", x.rests(out), BAD);
            }
        }
        says("3 RESTS: less 2 if it pulls: one ROW is not worth it");
        rests(of("FK0"), 1, 0);
        for (int place = 0; place <= 5; place++) {
            rests(ofRowAt("FK0Raaaaa", place), 1, 0);
        }
        says("3 RESTS: neither has more by another choice: by as much is no more");
        rests(of("FK0RaaaaaRaaaaa"), 4, 0);
        says("3 RESTS: all are counted, whether they COUNT or not");
        rests(of("FK3RaaaaaRaaaaa"), 4, 0);
        rests(of("FK1RaaaaaRaaaaa"), 4, 0);
        says("3 RESTS: in each ROW where the other one's has any");
        rests(rowsAt("FK0RaaaaaRaaaaa", 2, 0), 2, 0);
        rests(rowsAt("FK0RaaaaaRaaaaa", 2, 5), 2, 0);
        String three = "FK0RaaaaaRaaaaaRaaaaa";
        rests(of(three), 1, 11);
        rests(rowsAt(three, 3, 1), 1, 11);
        rests(rowsAt(three, 3, 4), 1, 11);
        says("3 RESTS: the least one (10 times the one and the other)");
        WireFamily left = rowsAt(three, 3, 1);
        left.draw(0, 0);
        rests(left, 2, 1);
        WireFamily right = rowsAt(three, 3, 4);
        right.draw(0, 1);
        rests(right, 2, 10);
        says("3 RESTS: NONE");
        rests(rowsAt(three, 3, 0), 0, NONE);
        rests(rowsAt(three, 3, 5), 0, NONE);
        rests(of(LONGEST), 1, 11);
    }

    private static void slips(WireFamily x, int deed, int half, int tenths, int above, int below) {
        String call = "slips(" + deed + ", " + half + ", " + tenths + ")";
        due(call + ", above", x.slips(deed, half, tenths, true), above);
        due(call + ", below", x.slips(deed, half, tenths, false), below);
    }

    private static void slipsArguments() {
        says("24 UNKNOWN: deed");
        WireFamily x = of(LONGEST);
        slips(x, 0, 0, 0, 1, 1);
        slips(x, 3, 0, 0, 0, 1);
        slips(x, 4, 0, 0, UNKNOWN, UNKNOWN);
        slips(of("FK0Raaaaa"), 0, 0, 0, UNKNOWN, UNKNOWN);
        says("24 BAD: half");
        slips(x, 0, 2, 0, BAD, BAD);
        says("24 BAD: x");
        slips(x, 0, 0, 10, 1, 1);
        slips(x, 0, 0, 11, BAD, BAD);
        for (int out : OUT) {
            slips(x, out, 0, 0, UNKNOWN, UNKNOWN);
            slips(x, 0, out, 0, BAD, BAD);
            slips(x, 0, 0, out, BAD, BAD);
        }
        says("24 UNKNOWN is told ahead of BAD");
        slips(x, 4, 2, 11, UNKNOWN, UNKNOWN);
        slips(x, -1, -1, 0, UNKNOWN, UNKNOWN);
        slips(x, -1, 0, -1, UNKNOWN, UNKNOWN);
        slips(x, 0, 2, 11, BAD, BAD);
    }

    private static void slipsOf() {
        // A heart in column 2 of each row: it is on the left only in rows that slip.
        String hearts = "FK0RaadaaRaadaaRaadaaRaadaaRaadaaD35D31";
        says("3 SLIPS: by x tenths, by itself in each ROW; FRACTIONS in least terms");
        int[] above = {0, 1, 1, 243, 32, 1, 243, 16807, 1024, 59049, 1};
        int[] below = {1, 100000, 3125, 100000, 3125, 32, 3125, 100000, 3125, 100000, 1};
        for (int tenths = 0; tenths <= 10; tenths++) {
            WireFamily x = of(hearts);
            slips(x, 0, 0, tenths, above[tenths], below[tenths]);
            slips(x, 0, 1, 10 - tenths, above[tenths], below[tenths]);
        }
        slips(of(hearts), 1, 0, 5, 31, 32);
        slips(of(hearts), 1, 0, 1, 40951, 100000);
        says("3 SLIPS: 5 at most");
        WireFamily far = ofRowAt("FK0RaaaaaD05D01", 5);
        slips(far, 0, 0, 10, 1, 1);
        slips(far, 1, 1, 10, 0, 1);
        WireFamily last = ofRowAt("FK0RaaaaaD05D01", 4);
        slips(last, 0, 0, 7, 7, 10);
        slips(last, 1, 1, 7, 3, 10);
        slips(last, 1, 1, 10, 0, 1);
        slips(last, 1, 1, 0, 1, 1);
        slips(ofRowAt("FK0RaaaaaD01", 0), 0, 0, 4, 2, 5);
        says("3 SLIPS: LEVEL set aside");
        WireFamily apart = of("FK0RaaaaaRaaadaD31");
        apart.draw(1, 1);
        slips(apart, 0, 0, 3, 3, 10);
        slips(apart, 0, 0, 10, 1, 1);
        says("3 SLIPS: an INFANT is parted, or whole, by where the WIRE is then");
        slips(ofRowAt("FK3RaaaaaD01", 4), 0, 0, 3, 3, 10);
        slips(ofRowAt("FK3RaaaaaD01", 0), 0, 1, 3, 7, 10);
        says("3 SLIPS with no ROWS");
        slips(of("FK0D01"), 0, 0, 5, 0, 1);
        slips(of("FK0D01"), 0, 1, 10, 0, 1);
    }

    private static void seeds() {
        says("25 THE SEED, a long; 0 at first: what it was");
        WireFamily x = new WireFamily();
        long[] values = {0, Long.MAX_VALUE, Long.MIN_VALUE, -1, 1L << 32, MOST, 1, 0};
        long was = 0;
        for (long value : values) {
            due("seed(" + value + ")", x.seed(value), was);
            was = value;
        }
        says("3 YEARS: x times .. and .. (64 bits, wrapping)");
        for (long value : values) {
            x.seed(value);
            x.years(1);
            long want = BigInteger.valueOf(value).multiply(BigInteger.valueOf(TIMES)).add(BigInteger.valueOf(AND)).longValue();
            due("the seed behind " + value, x.seed(0), want);
        }
    }

    private static void yearsArguments() {
        says("26 BAD: m (1 .. 30)");
        // One KIN in all CELLS: parted in each year, as ten draws to one side never come here.
        WireFamily x = of("FK0RaaaaaRaaaaaRaaaaaRaaaaaRaaaaa");
        due("years(1)", x.years(1), 1);
        due("years(30)", x.years(30), 30);
        long was = x.seed(7);
        x.seed(was);
        due("years(0)", x.years(0), BAD);
        due("years(31)", x.years(31), BAD);
        for (int out : OUT) {
            due("years(" + out + ")", x.years(out), BAD);
        }
        says("26 BAD: what is refused changes nothing");
        due("the seed", x.seed(0), was);
        says("3 YEARS: m times");
        long seed = 0;
        for (int m = 1; m <= 30; m++) {
            seed = seed * TIMES + AND;
            WireFamily y = new WireFamily();
            due("years(" + m + "), nobody there", y.years(m), 0);
            due("the seed behind " + m, y.seed(0), seed);
        }
    }

    /** The seed by which the next one is told. */
    private static long ahead(long next) {
        long inverse = BigInteger.valueOf(TIMES).modInverse(BigInteger.ONE.shiftLeft(64)).longValue();
        return (next - AND) * inverse;
    }

    /** A seed by which one year brings what is told, with all bits beside it clear or set. */
    private static long bringing(int chance, boolean noise) {
        long beside = noise ? ~(15L << 33) : 0;
        return ahead((long) chance << 33 | beside);
    }

    /** Five rows of kin 0, who is parted by any of them; one row is another one. */
    private static WireFamily withRow(int special, String row) {
        StringBuilder text = new StringBuilder("FK0K0");
        for (int at = 0; at < 5; at++) {
            text.append(at == special ? row : "Raaaaa");
        }
        return of(text.toString());
    }

    private static void whatYearsBring() {
        says("3 YEARS: what is left of its upper 31 bits by 16: 0 .. 4 DRAWN less, 5 .. 9 more, 10 .. 14 CHANGED");
        for (int chance = 0; chance <= 15; chance++) {
            for (int row = 0; row < 5; row++) {
                boolean here = chance < 15 && chance % 5 == row;
                for (boolean noise : new boolean[] {false, true}) {
                    WireFamily left = withRow(row, "Reeaaa");
                    left.seed(bringing(chance, noise));
                    due("left, " + chance, left.years(1), here && chance / 5 != 1 ? 2 : 1);
                    WireFamily right = withRow(row, "Raaeea");
                    right.seed(bringing(chance, noise));
                    due("right, " + chance, right.years(1), here && chance / 5 != 0 ? 2 : 1);
                }
            }
        }
        says("3 YEARS: 15 JOINED");
        for (int chance = 10; chance <= 15; chance++) {
            WireFamily x = withRow(0, "Reeaaa");
            x.draw(0, 0);
            x.seed(bringing(chance, true));
            due("parted by a slip, " + chance, x.years(1), chance == 15 ? 1 : 2);
            due("gold", x.about(3), 0);
            due("the wire", x.about(4), 112222);
        }
    }

    private static void yearsThatCanNotBe() {
        says("3 YEARS: if it can be (a ROW that there is not)");
        for (int chance = 0; chance <= 15; chance++) {
            WireFamily none = of("FK0");
            none.seed(bringing(chance, false));
            due("no rows, " + chance, none.years(1), 0);
            WireFamily one = of("FK0K0Raaeee");
            one.seed(bringing(chance, false));
            due("one row, " + chance, one.years(1), chance == 0 || chance == 5 ? 1 : chance == 10 ? 2 : 0);
        }
        says("3 YEARS: if it can be (0 .. 5)");
        for (int chance : new int[] {0, 5, 10}) {
            WireFamily least = ofRowAt("FK0K0Raaaee", 0);
            least.seed(bringing(chance, false));
            due("at 0, " + chance, least.years(1), chance == 5 ? 1 : 0);
            WireFamily most = ofRowAt("FK0K0Raaaee", 5);
            most.seed(bringing(chance, false));
            due("at 5, " + chance, most.years(1), chance == 0 ? 1 : 0);
        }
        says("3 YEARS: if it can be (LEVEL)");
        WireFamily level = of("FK0K0RaaaaaReeaaaRaaaaa");
        level.draw(0, 1);
        level.seed(bringing(1, false));
        due("row 1 less, row 0 is farther", level.years(1), 1);
        WireFamily lower = of("FK0K0RaaaaaReeaaaRaaaaa");
        lower.draw(0, 0);
        lower.seed(bringing(1, false));
        due("row 1 less, row 0 is too", lower.years(1), 2);
    }

    private static void keepArguments() {
        says("27 UNKNOWN");
        WireFamily x = of("FK0K0RaaeeeRaaeee");
        due("keep(2)", x.keep(2), UNKNOWN);
        says("28 UNKNOWN");
        due("again(2)", x.again(2), UNKNOWN);
        for (int out : OUT) {
            due("keep(" + out + ")", x.keep(out), UNKNOWN);
            due("again(" + out + ")", x.again(out), UNKNOWN);
        }
        says("28 LATE: none were kept");
        x.draw(0, 1);
        due("again(0)", x.again(0), LATE);
        due("again(1)", x.again(1), LATE);
        says("28 LATE: what is refused changes nothing");
        due("the wire", x.about(4), 132);
        due("acts", x.about(8), 1);
        says("28 LATE: each SLOT for itself");
        due("keep(1)", x.keep(1), 0);
        due("again(0)", x.again(0), LATE);
        due("acts", x.about(8), 1);
        due("again(1)", x.again(1), 0);
        due("keep(0)", x.keep(0), 0);
        due("again(0)", x.again(0), 0);
    }

    private static void keepAndAgain() {
        says("27 They are kept: GOLD");
        WireFamily x = of("FK0K0RaaeeeRaaeee");
        x.see(1, 1);
        x.seed(5);
        x.draw(0, 1);
        x.join();
        x.draw(1, 0);
        x.change(0);
        due("keep(0)", x.keep(0), 1);
        says("27 keep changes nothing of what is");
        due("acts", x.about(8), 4);
        due("the wire", x.about(4), 121);
        due("undo", x.undo(), 3);
        due("cell", x.cell(0, 1, 0), 0);
        due("join", x.join(), 2);
        due("keep(1)", x.keep(1), 2);
        says("28 They are as they were kept: GOLD");
        due("again(0)", x.again(0), 1);
        due("gold", x.about(3), 1);
        due("the wire", x.about(4), 121);
        due("cell left", x.cell(0, 1, 0), 1);
        due("cell right", x.cell(0, 2, 0), 0);
        says("3 no ACTS when one goes on");
        due("acts", x.about(8), 0);
        due("undo", x.undo(), LATE);
        due("the wire", x.about(4), 121);
        says("28 what was kept stays kept, whatever is done then");
        x.change(0);
        x.join();
        due("again(0)", x.again(0), 1);
        due("the wire", x.about(4), 121);
        due("cell left", x.cell(0, 1, 0), 1);
        due("again(1)", x.again(1), 2);
        due("the wire", x.about(4), 122);
        due("cell left", x.cell(0, 1, 0), 0);
        says("27 a SLOT keeps the last that was put there");
        due("keep(0)", x.keep(0), 2);
        x.draw(0, 0);
        due("again(0)", x.again(0), 2);
        due("the wire", x.about(4), 122);
        says("3 SLOTS keep the WIRE, CELLS, GOLD, and nothing else");
        due("seen", x.about(9), 1);
        due("seed", x.seed(0), 5);
        due("bytes", x.about(10), 17);
    }

    private static void keepNothing() {
        says("27 keep with nothing there, gone with THE FAMILY");
        WireFamily x = new WireFamily();
        due("keep(0)", x.keep(0), 0);
        due("again(0)", x.again(0), 0);
        put(x, "FK0Raaaaa");
        due("family()", x.family(), 110);
        due("again(0)", x.again(0), LATE);
        says("5 what was kept is gone; LATE: what is refused leaves it");
        due("keep(1)", x.keep(1), 0);
        put(x, "FK");
        due("family()", x.family(), LATE);
        due("again(1)", x.again(1), 0);
    }

    public static void main(String[] args) {
        seeArguments();
        fullSeen();
        tracesOf();
        tracesOfAll();
        restsOf();
        slipsArguments();
        slipsOf();
        seeds();
        yearsArguments();
        whatYearsBring();
        yearsThatCanNotBe();
        keepArguments();
        keepAndAgain();
        keepNothing();
        end();
    }
}
