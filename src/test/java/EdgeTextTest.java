/** The edges of the text, of its faults and of the family it tells: promises 1 to 5. */
public final class EdgeTextTest extends Checks {
    private static final String FIVE_KIN = "FK0K0K0K0K0";

    private static void nothingAtFirst() {
        says("1 No rows, no kin");
        WireFamily x = new WireFamily();
        due("rows", x.about(0), 0);
        due("kin", x.about(1), 0);
        due("cell(0, 0, 0)", x.cell(0, 0, 0), UNKNOWN);
        due("kin(0, 0)", x.kin(0, 0), UNKNOWN);
        due("draw(0, 1)", x.draw(0, 1), UNKNOWN);
        due("change(0)", x.change(0), UNKNOWN);
        due("see(0, 0)", x.see(0, 0), UNKNOWN);
        due("share(0, 0, true)", x.share(0, 0, true), UNKNOWN);

        says("Terms: At first there is nothing");
        int[] first = {0, 0, 0, 0, 1, 0, 0, 1, 0, 0, 0};
        for (int what = 0; what < first.length; what++) {
            due("about(" + what + ")", x.about(what), first[what]);
        }
        for (int half = 0; half <= 1; half++) {
            due("can", x.can(half), 0);
            for (int part = 0; part <= 3; part++) {
                due("has", x.has(half, part), 0);
            }
        }
        due("fewest(0, 0)", x.fewest(0, 0), UNKNOWN);
        due("slips(0, 0, 5, true)", x.slips(0, 0, 5, true), UNKNOWN);
        due("undo()", x.undo(), LATE);
        due("unsee()", x.unsee(), 0);
        due("wipe()", x.wipe(), 0);
        due("again(0)", x.again(0), LATE);
        due("again(1)", x.again(1), LATE);
        due("family()", x.family(), LATE);
        due("seed(0)", x.seed(0), 0);
    }

    private static void noRowsStillHaveOneWire() {
        says("2 WIRES are all LEVEL ones, as figures, behind a 1: with no ROW the 1 alone");
        for (WireFamily x : new WireFamily[] {new WireFamily(), of("F"), of(FIVE_KIN + "D01")}) {
            due("the wire", x.about(4), 1);
            due("wires", x.about(7), 1);
            due("slips", x.about(5), 0);
            due("best(0)", x.best(0), 1);
            due("best(1)", x.best(1), 0);
            due("fair(9999, 9999, 0)", x.fair(9999, 9999, 0), 1);
            due("fair(9999, 9999, 1)", x.fair(9999, 9999, 1), 1);
            due("traces(0)", x.traces(0), 1);
            due("traces(1)", x.traces(1), 1);
            due("rests(0)", x.rests(0), 1);
            due("rests(1)", x.rests(1), 0);
            due("years(30)", x.years(30), 0);
            due("judge(1, 30)", x.judge(1, 30), NONE);
            due("judge(1, 0)", x.judge(1, 0), 0);
            due("join()", x.join(), 0);
            due("acts", x.about(8), 1);
            due("keep(1)", x.keep(1), 0);
            due("again(1)", x.again(1), 0);
        }
    }

    private static void bytes() {
        says("2 A byte (0 .. 255); BAD");
        WireFamily x = new WireFamily();
        due("write(-1), nothing there", x.write(-1), BAD);
        due("write(256), nothing there", x.write(256), BAD);
        due("bytes", x.about(10), 0);
        due("write(0)", x.write(0), 1);
        due("write(255)", x.write(255), 2);
        for (int letter : new int[] {-1, 256, -256, 70 + 256, LEAST, MOST}) {
            due("write(" + letter + ")", x.write(letter), BAD);
            due("bytes behind it", x.about(10), 2);
        }
        due("write(70)", x.write(70), 3);

        says("2 A byte comes behind THE TEXT, as it is");
        for (int letter = 0; letter <= 255; letter++) {
            WireFamily one = new WireFamily();
            due("write(" + letter + ")", one.write(letter), 1);
            due("fault of the byte " + letter, one.fault(), letter == 'F' ? NONE : 0);
        }

        says("2 BAD: what is refused changes nothing");
        WireFamily kept = new WireFamily();
        put(kept, "FK");
        kept.write(-1);
        kept.write(256 + '3');
        due("write('2')", kept.write('2'), 3);
        due("family()", kept.family(), 10);
        due("its kind", kept.kin(0, 0), 2);
    }

    private static void fullText() {
        says("2 FULL: there are 56");
        WireFamily x = new WireFamily();
        for (int n = 1; n <= 56; n++) {
            due("write, byte " + n, x.write(n == 1 ? 'F' : 'x'), n);
        }
        due("the 57th", x.write('F'), FULL);
        due("once more", x.write('F'), FULL);
        due("write(0)", x.write(0), FULL);
        due("write(255)", x.write(255), FULL);

        says("2 FULL: what is refused changes nothing");
        due("bytes", x.about(10), 56);
        due("fault", x.fault(), 1);

        says("2 BAD is told ahead of FULL");
        due("write(-1)", x.write(-1), BAD);
        due("write(256)", x.write(256), BAD);
        due("bytes", x.about(10), 56);

        says("3 wipe: how long it was, of a full one, and it can be written anew");
        due("wipe()", x.wipe(), 56);
        due("bytes", x.about(10), 0);
        due("fault, nothing there", x.fault(), 0);
        due("wipe() of nothing", x.wipe(), 0);
        for (int n = 1; n <= 56; n++) {
            due("write anew, byte " + n, x.write('F'), n);
        }
        due("the 57th anew", x.write('F'), FULL);
    }

    private static void wipeLeavesTheFamily() {
        says("3 THE TEXT is empty: how long it was (and nothing else)");
        WireFamily x = of(LONGEST);
        x.draw(4, 1);
        x.join();
        due("wipe()", x.wipe(), 53);
        due("bytes", x.about(10), 0);
        int[] still = {5, 5, 4, 1, 122222, 0, 0, 340, 2, 0, 0};
        for (int what = 0; what < still.length; what++) {
            due("about(" + what + ")", x.about(what), still[what]);
        }
        due("family(), nothing there", x.family(), LATE);
        due("rows", x.about(0), 5);
        due("write('F')", x.write('F'), 1);
        due("wipe() of one", x.wipe(), 1);
    }

    private static void fault(String text, int want) {
        WireFamily x = new WireFamily();
        put(x, text);
        due("fault of " + text, x.fault(), want);
        due("fault once more", x.fault(), want);
        due("bytes of " + text, x.about(10), text.length());
        due("family of " + text + " is late", x.family() == LATE ? 1 : 0, want == NONE ? 0 : 1);
    }

    private static void beginnings() {
        says("Terms: A FAMILY is F, then THINGS, none or more");
        fault("", 0);
        fault("F", NONE);
        fault("f", 0);
        fault("E", 0);
        fault("G", 0);
        fault("K0", 0);
        fault(" F", 0);
        fault("FF", 1);
        fault("Ff", 1);
        fault("FK0F", 3);
        fault("FK0FK0", 3);
        for (char letter = 0; letter <= 255; letter++) {
            if ("KRD".indexOf(letter) < 0) {
                fault("FK0" + letter, 3);
            }
        }
    }

    private static void kinds() {
        says("Terms: KIN of KIND k (0 PLAIN, 1 AUNT, 2 UNCLE, 3 INFANT)");
        for (char kind = 0; kind <= 255; kind++) {
            fault("FK" + kind, kind >= '0' && kind <= '3' ? NONE : 2);
        }
        for (int kind = 0; kind <= 3; kind++) {
            due("its kind", of("FK" + kind).kin(0, 0), kind);
        }
        fault("FK", 2);
        fault("Fk0", 1);
    }

    private static void cellLetters() {
        says("Terms: a .. t each; its KIN, told ahead");
        for (int kin = 1; kin <= 5; kin++) {
            String ahead = FIVE_KIN.substring(0, 1 + 2 * kin);
            for (char letter = 0; letter <= 255; letter++) {
                boolean well = letter >= 'a' && letter < 'a' + 4 * kin;
                fault(ahead + "R" + letter + "aaaa", well ? NONE : ahead.length() + 1);
                fault(ahead + "Raaaa" + letter, well ? NONE : ahead.length() + 5);
            }
        }
        says("Terms: its KIN, told ahead: not behind the ROW");
        fault("FK0ReaaaaK0", 4);
        fault("FK0RaaaaeK0", 8);
        fault("FK0K0ReaaaaK0", NONE);
        fault("FK0RaaaaaK0Reaaaa", NONE);
        fault("FK0RaaaaaK0Riaaaa", 12);

        says("Terms: that by 4, cut, is its KIN; what is left by 4 is its PART");
        WireFamily x = of(FIVE_KIN + "RabcdeRfghijRklmnoRpqrst");
        for (int letter = 0; letter < 20; letter++) {
            due("kin of letter " + letter, x.cell(letter / 5, letter % 5, 0), letter / 4);
            due("part of letter " + letter, x.cell(letter / 5, letter % 5, 1), letter % 4);
        }
    }

    private static void fiveCells() {
        says("Terms: a ROW of five CELLS");
        fault("FK0R", 4);
        fault("FK0Ra", 5);
        fault("FK0Raaaa", 8);
        fault("FK0Raaaaa", NONE);
        fault("FK0Raaaaaa", 9);
        fault("FK0RaaaaK0", 8);
        fault("FK0RaaaaRaaaaa", 8);
        fault("FK0RaaaaD01", 8);
        fault("FK0RRaaaaa", 4);
    }

    private static void deedLetters() {
        says("Terms: Dpn needs n (1 .. 9) CELLS of PART p (0 .. 3)");
        for (char letter = 0; letter <= 255; letter++) {
            fault("FD" + letter + "1", letter >= '0' && letter <= '3' ? NONE : 2);
            fault("FD0" + letter, letter >= '1' && letter <= '9' ? NONE : 3);
        }
        fault("FD", 2);
        fault("FD3", 3);
        fault("FD39", NONE);
        fault("FD399", 4);
        fault("Fd01", 1);
    }

    private static void tooMany() {
        says("Terms: KIN 5 at most; a sixth K: at its letter");
        fault(FIVE_KIN, NONE);
        fault(FIVE_KIN + "K", 11);
        fault(FIVE_KIN + "K0", 11);
        fault(FIVE_KIN + "K9", 11);
        due("family of five kin", of(FIVE_KIN).about(1), 5);

        says("Terms: ROWS 5 at most; a sixth R: at its letter");
        String rows = "FK0RaaaaaRaaaaaRaaaaaRaaaaaRaaaaa";
        fault(rows, NONE);
        fault(rows + "R", 33);
        fault(rows + "Raaaaa", 33);
        fault(rows + "K0", NONE);
        due("family of five rows", of(rows).about(0), 5);

        says("Terms: DEEDS 4 at most; a fifth D: at its letter");
        fault("FD01D01D01D01", NONE);
        fault("FD01D01D01D01D", 13);
        fault("FD01D01D01D01D01", 13);
        fault("FD01D01D01D01K0", NONE);
        due("family of four deeds", of("FD01D01D01D01").about(2), 4);

        says("Terms: an R ahead of any K: at its letter");
        fault("FR", 1);
        fault("FRaaaaa", 1);
        fault("FRaaaaaK0", 1);
        fault("FD01Raaaaa", 4);
        fault("FK0Raaaaa", NONE);
        fault("FD01K0Raaaaa", NONE);
    }

    private static void firstOfSeveral() {
        says("Terms: FAULT is the place of the first byte by which THE TEXT can be no FAMILY");
        fault("FK4K4", 2);
        fault("FK0RazzzzD99", 5);
        fault("xK4", 0);
        fault("FRzzzzz", 1);

        says("Terms: its length, if it is only not at its end");
        boolean[] isEnd = new boolean[LONGEST.length() + 1];
        for (int at = 1; at <= LONGEST.length(); at++) {
            isEnd[at] = at == LONGEST.length() || "KRD".indexOf(LONGEST.charAt(at)) >= 0;
        }
        for (int length = 0; length <= LONGEST.length(); length++) {
            fault(LONGEST.substring(0, length), isEnd[length] ? NONE : length);
        }

        says("Terms: FAULT, its length set aside");
        fault(LONGEST + "K", 53);
        fault(LONGEST + "R", 53);
        fault(LONGEST + "D", 53);
        fault(LONGEST + "KKK", 53);
        fault("F".repeat(56), 1);
    }

    private static void numbering() {
        says("Terms: THINGS, numbered as they are told, each kind for itself");
        WireFamily x = of("FD11K3D02RaabbaK1D23ReffffK2D34");
        due("family", x.family(), 234);
        int[] kinds = {3, 1, 2};
        for (int kin = 0; kin < 3; kin++) {
            due("kind of " + kin, x.kin(kin, 0), kinds[kin]);
        }
        due("row 0", x.cell(0, 2, 1), 1);
        due("row 1", x.cell(1, 0, 0), 1);
        // The infant is parted; of the aunt there are a voice and four hands for both halves.
        due("deed 0 alone, left", x.can(0), 1);
        due("deed 0 alone, right", x.can(1), 1);
    }

    private static void familyAnswers() {
        says("5 100 times ROWS, 10 times KIN, and DEEDS");
        String[] texts = {"F", "FD01", "FD01D01D01D01", "FK0", FIVE_KIN, "FK0Raaaaa", LONGEST};
        int[] want = {0, 1, 4, 10, 50, 110, 554};
        for (int at = 0; at < texts.length; at++) {
            WireFamily x = new WireFamily();
            put(x, texts[at]);
            due("family of " + texts[at], x.family(), want[at]);

            says("5 THE TEXT itself stays");
            due("bytes", x.about(10), texts[at].length());
            due("fault", x.fault(), NONE);
            due("family once more", x.family(), want[at]);
            says("5 100 times ROWS, 10 times KIN, and DEEDS");
        }
    }

    private static void familyAnew() {
        WireFamily x = of(LONGEST);
        due("change(0)", x.change(0), 2);
        due("draw(4, 1)", x.draw(4, 1), 3);
        due("join()", x.join(), 1);
        due("draw(3, 0)", x.draw(3, 0), 1);
        x.keep(0);
        x.keep(1);
        x.see(4, 2);
        x.see(0, 0);
        x.seed(-5);
        due("family()", x.family(), 554);
        says("Terms: when THE FAMILY is made anew, the WIRE is at 2 in each ROW");
        due("the wire", x.about(4), 122222);
        says("Terms: when THE FAMILY is made anew, there is no GOLD");
        due("gold", x.about(3), 0);
        says("5 THE TEXT is THE FAMILY: its CELLS as told, not as changed");
        due("cell(0, 1, 0)", x.cell(0, 1, 0), 1);
        due("cell(0, 2, 0)", x.cell(0, 2, 0), 2);
        says("5 no ACTS");
        due("acts", x.about(8), 0);
        due("undo()", x.undo(), LATE);
        says("5 what was kept is gone");
        due("again(0)", x.again(0), LATE);
        due("again(1)", x.again(1), LATE);
        says("5 SEEN, THE SEED stay");
        due("seen", x.about(9), 2);
        // Of 259 level wires at 1 .. 5 those 178 at 1 .. 4 are out, and the one at 5 in each row.
        due("traces(0)", x.traces(0), 80);
        due("seed", x.seed(0), -5);
    }

    private static void familyGetsLess() {
        says("5 THE TEXT is THE FAMILY: what the one ahead had more is gone");
        WireFamily x = of(LONGEST);
        put(x, "FK2RabcdaD13");
        due("family()", x.family(), 111);
        due("row 1", x.cell(1, 0, 0), UNKNOWN);
        due("draw, row 1", x.draw(1, 0), UNKNOWN);
        due("kin 1", x.kin(1, 0), UNKNOWN);
        due("deed 1", x.fewest(1, 0), UNKNOWN);
        due("kind", x.kin(0, 0), 2);
        due("the wire", x.about(4), 12);
        due("parted", x.about(6), 1);
        due("can(0)", x.can(0), 0);
        put(x, "F");
        due("family()", x.family(), 0);
        due("kin 0", x.kin(0, 0), UNKNOWN);
        due("the wire", x.about(4), 1);
        due("parted", x.about(6), 0);
        put(x, LONGEST);
        due("family()", x.family(), 554);
        due("kind 3", x.kin(3, 0), 3);
    }

    private static void familyLate() {
        says("5 LATE: a FAULT");
        for (String text : new String[] {"", "x", "FK", "FK4", "FR", "FK0Raaaa", LONGEST + "K"}) {
            WireFamily x = new WireFamily();
            put(x, text);
            due("family of " + text, x.family(), LATE);
            due("kin", x.about(1), 0);
            due("bytes", x.about(10), text.length());
        }
        says("5 LATE: what is refused changes nothing");
        WireFamily x = of("FK1RabcdaD05");
        x.draw(0, 1);
        x.keep(0);
        put(x, "FK3K3RhhhhhRhhhhhD19D19D");
        due("family()", x.family(), LATE);
        int[] still = {1, 1, 1, 0, 13, 0, 1, 6, 1, 0, 24};
        for (int what = 0; what < still.length; what++) {
            due("about(" + what + ")", x.about(what), still[what]);
        }
        due("kind", x.kin(0, 0), 1);
        due("part", x.cell(0, 3, 1), 3);
        due("deed", x.slips(0, 0, 0, true), 0);
        due("kept", x.again(0), 0);
    }

    public static void main(String[] args) {
        nothingAtFirst();
        noRowsStillHaveOneWire();
        bytes();
        fullText();
        wipeLeavesTheFamily();
        beginnings();
        kinds();
        cellLetters();
        fiveCells();
        deedLetters();
        tooMany();
        firstOfSeveral();
        numbering();
        familyAnswers();
        familyAnew();
        familyGetsLess();
        familyLate();
        end();
    }
}
