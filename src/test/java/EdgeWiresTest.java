/** The edges of questions over all wires, of told doings and of shares: promises 15 to 19. */
public final class EdgeWiresTest extends Checks {
    private static final String TWO_ROWS = "FK0RaaaaaRaaaaa";
    private static final int[] OUT = {-1, -2, LEAST, MOST};

    private static void best(String text, int wire, int deeds) {
        WireFamily x = of(text);
        due("best(0) of " + text, x.best(0), wire);
        due("best(1) of " + text, x.best(1), deeds);
    }

    private static void bests() {
        says("15 BAD");
        for (WireFamily x : new WireFamily[] {new WireFamily(), of(LONGEST)}) {
            due("best(2)", x.best(2), BAD);
            for (int out : OUT) {
                due("best(" + out + ")", x.best(out), BAD);
            }
        }
        says("2 BEST: most DEEDS, one that both CAN do twice");
        best("FK0RaaaaaD02", 12, 2);
        best("FK0RaaaaaD05", 10, 1);
        best("FK0RaaaaaD06", 10, 0);
        says("2 BEST: from no DEEDS to all by both halves");
        best("FK1RaaaaaD01D02D03D05", 10, 8);
        best("FK0RaaaaaD11D21D31D19", 10, 0);
        best("FK0Raaaaa", 10, 0);
        best("FK0", 1, 0);
        best("FD01", 1, 0);
        says("2 BEST: of like ones that by which fewest KIN are PARTED");
        best("FK0K0RaaaeeD02", 13, 2);
        best("FK0K0RaeeeeD01", 11, 2);
        says("2 BEST: most DEEDS are ahead of fewest KIN, though all five are PARTED");
        // Of twenty voices nine are needed by each half; no wire leaves 9 .. 11 and anybody whole.
        best("FK0K0K0K0K0RaeimqRqmieaRaeimqRqmieaD09", 11233, 2);
        says("2 BEST: then the first one");
        best("FK0RaaaaaD01", 11, 2);
        best("FK0K0RaaeeeRaaeeeD15", 100, 0);
    }

    private static void fewest(String text, int deed, int wire, int kin) {
        WireFamily x = of(text);
        due("fewest(" + deed + ", 0) of " + text, x.fewest(deed, 0), wire);
        due("fewest(" + deed + ", 1) of " + text, x.fewest(deed, 1), kin);
    }

    private static void fewestArguments() {
        says("16 UNKNOWN");
        WireFamily x = of(LONGEST);
        due("deed 0", x.fewest(0, 1), 0);
        due("deed 3", x.fewest(3, 1), NONE);
        due("deed 4", x.fewest(4, 0), UNKNOWN);
        due("no deeds", of(TWO_ROWS).fewest(0, 0), UNKNOWN);
        due("deed 1 of one", of("FK0RaaaaaD01").fewest(1, 0), UNKNOWN);
        says("16 BAD");
        due("what 2", x.fewest(0, 2), BAD);
        for (int out : OUT) {
            due("deed " + out, x.fewest(out, 0), UNKNOWN);
            due("what " + out, x.fewest(0, out), BAD);
        }
        says("16 UNKNOWN is told ahead of BAD; NONE is an answer, so BAD is ahead of it");
        due("fewest(4, 2)", x.fewest(4, 2), UNKNOWN);
        due("fewest(-1, -1)", x.fewest(-1, -1), UNKNOWN);
        due("fewest(3, 2)", x.fewest(3, 2), BAD);
    }

    private static void fewests() {
        says("2 FEWEST: NONE");
        fewest("FD01", 0, NONE, NONE);
        fewest("FK0D01", 0, NONE, NONE);
        fewest("FK0RaaaaaD03", 0, NONE, NONE);
        fewest("FK0RaaaabD11", 0, NONE, NONE);
        fewest("FK3RaaaaaD01", 0, NONE, NONE);
        says("2 FEWEST: both halves CAN do it, by just as many as it needs");
        fewest("FK0RaaaaaD02", 0, 12, 1);
        fewest("FK0RaaaabD02", 0, 12, 1);
        fewest("FK2RabbbbD01", 0, 10, 0);
        fewest("FK1RaaaaaD05", 0, 10, 0);
        fewest("FK1RaaaaaD06", 0, NONE, NONE);
        says("2 FEWEST: fewest KIN are PARTED");
        fewest("FK0K0RaaaeeD01", 0, 13, 0);
        fewest("FK0K0RaaaeeD03", 0, NONE, NONE);
        says("2 FEWEST: of like ones the first");
        fewest("FK0RaaaaaD01", 0, 11, 1);
        fewest("FK0K0K0RaaeiiD01", 0, 12, 0);
        says("2 FEWEST: each DEED by its own number");
        String four = "FK0RaaabbD01D02D11D12";
        fewest(four, 0, 11, 1);
        fewest(four, 1, NONE, NONE);
        fewest(four, 2, 14, 1);
        fewest(four, 3, NONE, NONE);
    }

    private static void fairArguments() {
        says("17 BAD: one, other (0 .. 9999)");
        WireFamily x = of(TWO_ROWS);
        due("both 0", x.fair(0, 0, 0), 16);
        due("both 9999", x.fair(9999, 9999, 0), 2);
        due("one 10000", x.fair(10000, 0, 0), BAD);
        due("other 10000", x.fair(0, 10000, 0), BAD);
        says("17 BAD: what");
        due("what 1", x.fair(0, 0, 1), 100);
        due("what 2", x.fair(0, 0, 2), BAD);
        for (int out : OUT) {
            due("one " + out, x.fair(out, 0, 0), BAD);
            due("other " + out, x.fair(0, out, 0), BAD);
            due("what " + out, x.fair(0, 0, out), BAD);
            due("all " + out, x.fair(out, out, out), BAD);
        }
        due("nothing there", new WireFamily().fair(10000, 0, 0), BAD);
        due("nothing there", new WireFamily().fair(0, 0, 2), BAD);
    }

    private static void fair(String text, int one, int other, int howMany, int first) {
        WireFamily x = of(text);
        due("fair(" + one + ", " + other + ", 0) of " + text, x.fair(one, other, 0), howMany);
        due("fair(" + one + ", " + other + ", 1) of " + text, x.fair(one, other, 1), first);
    }

    private static void fairs() {
        says("2 FAIR: as much as in the other half, or more");
        fair(TWO_ROWS, 1000, 1000, 2, 123);
        fair(TWO_ROWS, 1000, 0, 9, 123);
        fair(TWO_ROWS, 0, 1000, 9, 100);
        says("2 FAIR: NONE");
        fair("FK0Raaaaa", 1000, 1000, 0, NONE);
        fair("FK0Raaaaa", 9999, 1, 3, 13);
        says("2 FAIR: the last wire alone");
        fair("FK0Raaaab", 100, 0, 1, 15);
        fair("FK0Rbaaaa", 0, 100, 1, 10);
        says("2 FAIR: four figures each, VOICE first");
        fair("FK0Rabcda", 1000, 0, 5, 11);
        fair("FK0Rabcda", 100, 0, 4, 12);
        fair("FK0Rabcda", 10, 0, 3, 13);
        fair("FK0Rabcda", 1, 0, 2, 14);
        says("2 FAIR: figures 0 .. 9 are the worth of a CELL");
        fair("FK0Rabbbb", 4100, 0, 5, 11);
        fair("FK0Rabbbb", 3100, 0, 4, 12);
        fair("FK0Rabbbb", 9200, 0, 5, 11);
        fair("FK0Rabbbb", 9300, 0, 4, 12);
        says("2 FAIR: worth is that of CELLS that COUNT");
        fair("FK1Raaaaa", 9000, 9000, 6, 10);
        fair("FK2Raaaaa", 9000, 9000, 6, 10);
        fair("FK3Raaaaa", 9000, 9000, 4, 11);
        fair("FK2Rbbbbb", 900, 900, 0, NONE);
    }

    private static void judgeArguments() {
        says("18 BAD: n (1 .. 4)");
        WireFamily x = of(LONGEST);
        due("n 1", x.judge(1, 0), NONE);
        due("n 4", x.judge(4, 1020304), NONE);
        due("n 0", x.judge(0, 0), BAD);
        due("n 5", x.judge(5, 0), BAD);
        says("18 BAD: row (0 or more, 2 n figures at most)");
        int[] most = {99, 9999, 999999, 99999999};
        for (int n = 1; n <= 4; n++) {
            due("row 0, n " + n, x.judge(n, 0), n == 1 ? NONE : 1);
            due("row of nines, n " + n, x.judge(n, most[n - 1]), 0);
            due("row one more, n " + n, x.judge(n, most[n - 1] + 1), BAD);
            for (int out : OUT) {
                due("row " + out + ", n " + n, x.judge(n, out), BAD);
            }
        }
        for (int out : OUT) {
            due("n " + out, x.judge(out, 0), BAD);
            due("n and row " + out, x.judge(out, out), BAD);
        }
        due("nothing there, n", new WireFamily().judge(5, 30), BAD);
        due("nothing there, row", new WireFamily().judge(1, 100), BAD);
    }

    private static void judgeDoings() {
        says("2 JUDGED: 0 and a ROW, 1 and a ROW, 2 and a ROW, 3 and 0");
        WireFamily five = of(LONGEST);
        WireFamily one = of("FK0Raaaaa");
        for (int kind = 0; kind <= 9; kind++) {
            for (int row = 0; row <= 9; row++) {
                boolean five0 = kind <= 2 ? row <= 4 : kind == 3 && row == 0;
                boolean one0 = kind <= 3 && row == 0;
                due("five rows, " + kind + row, five.judge(1, 10 * kind + row), five0 ? NONE : 0);
                due("one row, " + kind + row, one.judge(1, 10 * kind + row), one0 ? NONE : 0);
            }
        }
        says("2 JUDGED: CHANGED, if the two are there");
        int[] want = {0, NONE, NONE, NONE, NONE, 0};
        for (int place = 0; place <= 5; place++) {
            WireFamily x = ofRowAt("FK0Raaaaa", place);
            due("20 at " + place, x.judge(1, 20), want[place]);
            due("0 at " + place, x.judge(1, 0), place == 0 ? 0 : NONE);
            due("10 at " + place, x.judge(1, 10), place == 5 ? 0 : NONE);
            due("30 at " + place, x.judge(1, 30), NONE);
        }
    }

    private static void judgePlaces() {
        says("2 JUDGED: the place (from 0) of the first that can not be, what is ahead of it being done");
        WireFamily x = of("FK0Raaaaa");
        due("four more", x.judge(4, 10101010), 3);
        due("three more", x.judge(3, 101010), NONE);
        due("three less", x.judge(3, 0), 2);
        due("two less", x.judge(2, 0), NONE);
        due("less, less, changed", x.judge(3, 20), 2);
        due("less, changed", x.judge(2, 20), NONE);
        due("less, joined, less, less", x.judge(4, 300000), NONE);
        due("less, less, joined, changed", x.judge(4, 3020), NONE);
        due("less, less, more, less", x.judge(4, 1000), NONE);
        due("the first of two", x.judge(2, 4141), 0);
        due("the last alone", x.judge(4, 10001001), 3);
        WireFamily two = of(TWO_ROWS);
        due("row 0 twice", two.judge(2, 1010), 1);
        due("row 1 between", two.judge(3, 101110), NONE);
        due("apart", two.judge(2, 1001), 1);
        says("2 In what follows nothing is changed: each JUDGED begins from what is");
        due("the wire", two.about(4), 122);
        due("acts", two.about(8), 0);
        due("apart still", two.judge(1, 1), NONE);
        due("joined with a slip brings no gold", two.judge(2, 1030), NONE);
        due("gold", two.about(3), 0);
    }

    private static void share(WireFamily x, int kin, int half, int above, int below) {
        due("share(" + kin + ", " + half + "), above", x.share(kin, half, true), above);
        due("share(" + kin + ", " + half + "), below", x.share(kin, half, false), below);
    }

    private static void shareArguments() {
        says("19 UNKNOWN: kin");
        WireFamily x = of(LONGEST);
        share(x, 5, 0, UNKNOWN, UNKNOWN);
        share(of("F"), 0, 0, UNKNOWN, UNKNOWN);
        share(of("FK0"), 1, 0, UNKNOWN, UNKNOWN);
        says("19 BAD: half");
        share(x, 0, 2, BAD, BAD);
        share(x, 4, 2, BAD, BAD);
        for (int out : OUT) {
            share(x, out, 0, UNKNOWN, UNKNOWN);
            share(x, 0, out, BAD, BAD);
        }
        says("19 UNKNOWN is told ahead of BAD");
        share(x, 5, 2, UNKNOWN, UNKNOWN);
        share(x, -1, -1, UNKNOWN, UNKNOWN);
    }

    private static void shares() {
        says("2 SHARE of one KIN alone, from none to all DEEDS");
        share(of("FK0RaaaaaD01D02D11"), 0, 0, 2, 1);
        share(of("FK0RaaaaaD01D02D03D03"), 0, 1, 4, 1);
        share(of("FK0Raaaaa"), 0, 0, 0, 1);
        share(of("FK0D01"), 0, 0, 0, 1);
        says("2 SHARE of KIN that have no CELLS");
        share(of("FK0K0RaaaaaD01"), 1, 0, 0, 1);
        share(of("FK0K0RaaaaaD01"), 0, 0, 1, 1);
        says("4 FRACTIONS in least terms: five KIN, 120 orders");
        for (int need = 1; need <= 5; need++) {
            WireFamily x = ofRowAt("FK0K0K0K0K0RaeimqD0" + need, 5);
            for (int kin = 0; kin < 5; kin++) {
                share(x, kin, 0, 1, 5);
                share(x, kin, 1, 0, 1);
            }
        }
        share(ofRowAt("FK0K0K0K0K0RaeimqD01D03D05D06", 5), 4, 0, 3, 5);
        says("2 SHARE: if KIN come one by one, in each order as likely");
        // Three voices are needed; kin 0 has two, three others one each: 1/2 and 1/6 each.
        WireFamily x = ofRowAt("FK0K0K0K0K0RaaeimD03", 5);
        share(x, 0, 0, 1, 2);
        share(x, 1, 0, 1, 6);
        share(x, 3, 0, 1, 6);
        share(x, 4, 0, 0, 1);
        // Four are needed: kin 0 brings it about if it comes third or last, so 1/2 as well.
        WireFamily four = ofRowAt("FK0K0K0K0RaaeimD04", 5);
        share(four, 0, 0, 1, 2);
        share(four, 2, 0, 1, 6);
        says("2 SHARE: CELLS of others COUNT for none; who is PARTED stays so");
        share(of("FK3K0RaaeeaD01"), 0, 0, 0, 1);
        share(of("FK3K0RaaeeaD01"), 1, 1, 1, 1);
        share(of("FK1K0RaaeeeD01"), 0, 0, 1, 1);
        share(of("FK1K0RaaeeeD01"), 0, 1, 1, 2);
        share(of("FK2K0RaaeeeD01"), 0, 1, 1, 2);
        share(of("FK2K0RbbeeeD11"), 0, 1, 0, 1);
    }

    public static void main(String[] args) {
        bests();
        fewestArguments();
        fewests();
        fairArguments();
        fairs();
        judgeArguments();
        judgeDoings();
        judgePlaces();
        shareArguments();
        shares();
        end();
    }
}
