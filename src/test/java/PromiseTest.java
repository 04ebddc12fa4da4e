/** Each promise by answers worked out by hand: ordinary inputs, edges, wrong inputs. */
public final class PromiseTest extends Checks {
    /** One row: plain kin 0 (voice, hands), aunt 1, uncle 2, infant 3 (a voice each). */
    private static final String ONE_ROW = "FK0K1K2K3RaeimbD03D11D04";

    private static void aNewObject() {
        WireFamily x = new WireFamily();
        int[] first = {0, 0, 0, 0, 1, 0, 0, 1, 0, 0, 0};
        for (int what = 0; what < first.length; what++) {
            due("1: about(" + what + ")", x.about(what), first[what]);
        }
        due("1: cell", x.cell(0, 0, 0), UNKNOWN);
        due("1: kin", x.kin(0, 0), UNKNOWN);
        due("1: undo", x.undo(), LATE);
        due("1: again", x.again(0), LATE);
        due("1: seed", x.seed(1), 0);
        due("1: keep", x.keep(0), 0);
        due("1: again, nothing kept well", x.again(0), 0);
        due("1: UNKNOWN", WireFamily.UNKNOWN, UNKNOWN);
        due("1: BAD", WireFamily.BAD, BAD);
        due("1: LATE", WireFamily.LATE, LATE);
        due("1: FULL", WireFamily.FULL, FULL);
        due("1: NONE", WireFamily.NONE, NONE);
    }

    private static void writeAndWipe() {
        WireFamily x = new WireFamily();
        due("2: write(-1)", x.write(-1), BAD);
        due("2: write(256)", x.write(256), BAD);
        due("2: write(MIN)", x.write(Integer.MIN_VALUE), BAD);
        for (int n = 1; n <= 56; n++) {
            due("2: write", x.write(n % 2 == 0 ? 0 : 255), n);
        }
        due("2: write, full", x.write(70), FULL);
        due("2: write, bad ahead of full", x.write(256), BAD);
        due("2: bytes", x.about(10), 56);
        due("3: wipe", x.wipe(), 56);
        due("3: wipe, empty", x.wipe(), 0);
        due("3: bytes", x.about(10), 0);
        due("3: write", x.write(70), 1);
    }

    private static void fault(String text, int want) {
        WireFamily x = new WireFamily();
        put(x, text);
        due("4: fault of " + text, x.fault(), want);
        due("5: family of " + text, x.family() == LATE ? 1 : 0, want == NONE ? 0 : 1);
        due("4: bytes of " + text, x.about(10), text.length());
    }

    private static void faults() {
        fault("", 0);
        fault("f", 0);
        fault("K", 0);
        fault("F", NONE);
        fault("FF", 1);
        fault("FK", 2);
        fault("FK4", 2);
        fault("FK/", 2);
        fault("FK3", NONE);
        fault("FR", 1);
        fault("FK0R", 4);
        fault("FK0Raaaa", 8);
        fault("FK0Raddda", NONE);
        fault("FK0Raaeaa", 6);
        fault("FK0K0Raahaa", NONE);
        fault("FK0K0Raaiaa", 8);
        fault("FK0K0K0K0K0Rtttta", NONE);
        fault("FK0K0K0K0K0Ruttta", 12);
        fault("FK0R`aaaa", 4);
        fault("FK0RaaaaaK0Reeeee", NONE);
        fault("FK0RaaaaaeK0", 9);
        fault("FD", 2);
        fault("FD4", 2);
        fault("FD3", 3);
        fault("FD30", 3);
        fault("FD3:", 3);
        fault("FD39", NONE);
        fault("FD01D12D23D34", NONE);
        fault("FD01D12D23D34D", 13);
        fault("FD01D12D23D34K0", NONE);
        fault("FK0K0K0K0K0", NONE);
        fault("FK0K0K0K0K0K0", 11);
        fault("FK0RaaaaaRaaaaaRaaaaaRaaaaaRaaaaa", NONE);
        fault("FK0RaaaaaRaaaaaRaaaaaRaaaaaRaaaaaRaaaaa", 33);
        fault("FK0 ", 3);
        fault("FK0\u00ff", 3);
        fault("FK0K0K0K0K0RtttttRtttttRtttttRtttttRtttttD01D01D01D01", NONE);
        fault("FK0K0K0K0K0RtttttRtttttRtttttRtttttRtttttD01D01D01D01K", 53);
    }

    private static void families() {
        WireFamily x = of(ONE_ROW);
        due("5: family again", x.family(), 143);
        due("5: the text stays", x.about(10), ONE_ROW.length());
        x.draw(0, 1);
        x.change(0);
        x.see(3, 2);
        x.keep(1);
        x.seed(77);
        put(x, "FK9");
        due("5: refused", x.family(), LATE);
        due("5: refused, kin stay", x.about(1), 4);
        due("5: refused, wire stays", x.about(4), 13);
        due("5: refused, acts stay", x.about(8), 2);
        due("5: refused, kept stays", x.again(1), 0);
        put(x, "FK1K1D11RaeaebRabcde");
        due("5: family", x.family(), 221);
        due("5: wire", x.about(4), 122);
        due("5: acts", x.about(8), 0);
        due("5: undo", x.undo(), LATE);
        due("5: kept is gone", x.again(1), LATE);
        due("5: seen stays", x.about(9), 1);
        due("5: seed stays", x.seed(0), 77);
        due("5: cells as told", x.cell(0, 3, 0), 1);
        put(x, "F");
        due("5: nobody", x.family(), 0);
        due("5: nobody's wire", x.about(4), 1);
        due("5: nobody's parted", x.about(6), 0);
    }

    private static void goldIsGoneWithTheFamily() {
        WireFamily x = of("FK0RaaaaaRaaaaa");
        x.draw(1, 1);
        due("13: gold", x.join(), 1);
        due("5: family", x.family(), 210);
        due("5: no gold", x.about(3), 0);
    }

    private static void abouts() {
        WireFamily x = of("FK0K0RaeaaaRaaaaaRaaaaaD01");
        int[] first = {3, 2, 1, 0, 1222, 0, 1, 44, 0, 0, 26};
        for (int what = 0; what < first.length; what++) {
            due("6: about(" + what + ")", x.about(what), first[what]);
        }
        due("6: about(-1)", x.about(-1), BAD);
        due("6: about(11)", x.about(11), BAD);
        x.draw(1, 1);
        due("6: slips", x.about(5), 2);
        due("6: wire", x.about(4), 1232);
        x.draw(0, 0);
        due("6: not level", x.about(4), 1232);
        x.draw(2, 1);
        due("6: slips", x.about(5), 1);
        due("6: acts", x.about(8), 2);
        x.see(1, 0);
        due("6: seen", x.about(9), 1);
        int[] wires = {1, 6, 16, 44, 122, 340};
        StringBuilder text = new StringBuilder("FK0");
        for (int rows = 0; rows <= 5; rows++) {
            due("6: wires of " + rows, of(text.toString()).about(7), wires[rows]);
            text.append("Raaaaa");
        }
    }

    private static void cells() {
        WireFamily x = of(ONE_ROW);
        int[][] want = {{0, 0, 0, 1}, {1, 0, 0, 3}, {2, 0, 1, 3}, {3, 0, 1, 2}, {0, 1, 1, 2}};
        for (int column = 0; column < 5; column++) {
            for (int what = 0; what < 4; what++) {
                due("7: cell(0, " + column + ", " + what + ")", x.cell(0, column, what), want[column][what]);
            }
        }
        due("7: row", x.cell(1, 9, 9), UNKNOWN);
        due("7: row", x.cell(-1, 0, 0), UNKNOWN);
        due("7: column", x.cell(0, 5, 0), BAD);
        due("7: column", x.cell(0, -1, 0), BAD);
        due("7: what", x.cell(0, 0, 4), BAD);
        due("7: what", x.cell(0, 0, -1), BAD);
        WireFamily infant = of("FK3K2RaafeaRbbbbb");
        due("7: parted infant", infant.cell(0, 0, 3), 0);
        due("7: uncle's hands", infant.cell(0, 2, 3), 2);
        due("7: uncle's voice", infant.cell(0, 3, 3), 3);
        drawTo(infant, 0, 2, 1);
        drawTo(infant, 1, 2, 1);
        drawTo(infant, 0, 1, 0);
        drawTo(infant, 1, 1, 0);
        due("7: whole infant", infant.cell(0, 0, 3), 2);
    }

    private static void kins() {
        WireFamily x = of("FK0K1K2K3K0RaefijRbmnao");
        int[][] want = {{0, 2, 1, 2, 1}, {1, 1, 1, 2, 2}, {2, 0, 2, 1, 2}, {3, 1, 2, 0, 0}, {0, 0, 0, 0, 0}};
        for (int kin = 0; kin < 5; kin++) {
            for (int what = 0; what < 5; what++) {
                due("8: kin(" + kin + ", " + what + ")", x.kin(kin, what), want[kin][what]);
            }
        }
        due("8: parted", x.about(6), 11);
        due("8: kin(5, 9)", x.kin(5, 9), UNKNOWN);
        due("8: kin(-1, 0)", x.kin(-1, 0), UNKNOWN);
        due("8: kin(0, 5)", x.kin(0, 5), BAD);
        due("8: kin(0, -1)", x.kin(0, -1), BAD);
    }

    private static void halves() {
        WireFamily x = of(ONE_ROW);
        due("9: has(0, 0)", x.has(0, 0), 3);
        due("9: has(1, 0)", x.has(1, 0), 3);
        due("9: has(0, 1)", x.has(0, 1), 0);
        due("9: has(1, 1)", x.has(1, 1), 1);
        due("9: has(1, 3)", x.has(1, 3), 0);
        due("9: half", x.has(2, 0), BAD);
        due("9: half", x.has(-1, 0), BAD);
        due("9: part", x.has(0, 4), BAD);
        due("9: part", x.has(0, -1), BAD);
        due("10: can(0)", x.can(0), 1);
        due("10: can(1)", x.can(1), 3);
        due("10: can(2)", x.can(2), BAD);
        due("10: can(-1)", x.can(-1), BAD);
        drawTo(x, 0, 2, 5);
        due("10: can(0), all left", x.can(0), 7);
        due("10: can(1), all left", x.can(1), 0);
    }

    private static void draws() {
        WireFamily x = of("FK0RaaaaaRaaaaaRaaaaa");
        due("11: row ahead of way", x.draw(3, 7), UNKNOWN);
        due("11: row", x.draw(-1, 0), UNKNOWN);
        due("11: way", x.draw(0, 2), BAD);
        due("11: way", x.draw(0, -1), BAD);
        due("11: more", x.draw(1, 1), 3);
        due("11: row ahead", x.draw(0, 0), LATE);
        due("11: row behind", x.draw(2, 0), LATE);
        due("11: too far", x.draw(1, 1), LATE);
        due("11: refused, no act", x.about(8), 1);
        due("11: back", x.draw(1, 0), 2);
        WireFamily one = of("FK0Raaaaa");
        drawTo(one, 0, 2, 5);
        due("11: beyond 5", one.draw(0, 1), LATE);
        drawTo(one, 0, 5, 0);
        due("11: beyond 0", one.draw(0, 0), LATE);
        due("11: the wire", one.about(4), 10);
    }

    private static void changes() {
        WireFamily x = of("FK0K0K0RafkabRaaaaa");
        due("12: row", x.change(2), UNKNOWN);
        due("12: row", x.change(-1), UNKNOWN);
        due("12: change", x.change(0), 2);
        due("12: left", x.cell(0, 1, 1), 2);
        due("12: right", x.cell(0, 2, 0), 1);
        due("12: change back", x.change(0), 1);
        due("12: acts", x.about(8), 2);
        WireFamily one = of("FK0K0Rabaef");
        drawTo(one, 0, 2, 0);
        due("12: no left one", one.change(0), LATE);
        drawTo(one, 0, 0, 1);
        due("12: at 1", one.change(0), 0);
        drawTo(one, 0, 1, 4);
        due("12: at 4", one.change(0), 1);
        due("12: its part", one.cell(0, 3, 1), 1);
        drawTo(one, 0, 4, 5);
        due("12: no right one", one.change(0), LATE);
    }

    private static void joins() {
        WireFamily x = of("FK0RaaaaaRaaaaaRaaaaa");
        x.draw(1, 0);
        due("13: two slips", x.join(), 2);
        due("13: wire", x.about(4), 1222);
        due("13: no slip", x.join(), 2);
        x.draw(0, 1);
        due("13: one slip", x.join(), 3);
        due("13: acts", x.about(8), 5);
        due("14: undo a join", x.undo(), 4);
        due("14: gold", x.about(3), 2);
        due("14: wire", x.about(4), 1322);
        due("14: undo a draw", x.undo(), 3);
        due("14: undo a join of none", x.undo(), 2);
        due("14: undo a join", x.undo(), 1);
        due("14: gold", x.about(3), 0);
        due("14: wire", x.about(4), 1212);
        due("14: undo the first", x.undo(), 0);
        due("14: wire", x.about(4), 1222);
        due("14: none", x.undo(), LATE);
    }

    private static void undoes() {
        WireFamily x = of("FK0K0RafaaaRaaaaa");
        x.change(0);
        x.draw(0, 1);
        x.change(0);
        due("14: changed twice", x.cell(0, 3, 0), 1);
        due("14: undo", x.undo(), 2);
        due("14: changed once", x.cell(0, 2, 0), 1);
        x.undo();
        due("14: undo all", x.undo(), 0);
        due("14: as told", x.cell(0, 1, 0), 1);
        for (int n = 1; n <= 15; n++) {
            x.change(0);
        }
        due("14: full", x.about(8), 14);
        for (int left = 13; left >= 0; left--) {
            due("14: undo", x.undo(), left);
        }
        due("14: the first is forgotten", x.undo(), LATE);
        due("14: and stays done", x.cell(0, 2, 0), 1);
    }

    private static void bests() {
        WireFamily x = of(ONE_ROW);
        due("15: fewest parted, then first", x.best(0), 10);
        due("15: deeds", x.best(1), 3);
        due("15: what", x.best(2), BAD);
        due("15: what", x.best(-1), BAD);
        due("15: nothing changes", x.about(4), 12);
        WireFamily most = of("FK0RaaaaaD02");
        due("15: most deeds ahead of fewest parted", most.best(0), 12);
        due("15: both halves", most.best(1), 2);
        WireFamily parted = of("FK0K0RaaaeeD02");
        due("15: fewest parted ahead of the first", parted.best(0), 13);
        due("15: no deeds", of("FK0Raaaaa").best(1), 0);
    }

    private static void fewests() {
        WireFamily x = of(ONE_ROW);
        due("16: wire", x.fewest(0, 0), 11);
        due("16: kin", x.fewest(0, 1), 1);
        due("16: no wire", x.fewest(1, 0), NONE);
        due("16: no kin", x.fewest(2, 1), NONE);
        due("16: deed ahead of what", x.fewest(3, 5), UNKNOWN);
        due("16: deed", x.fewest(-1, 0), UNKNOWN);
        due("16: what", x.fewest(0, 2), BAD);
        due("16: what", x.fewest(0, -1), BAD);
        due("16: not the first", of("FK0K0RaaaeeD02").fewest(0, 0), 13);
        due("16: nobody parted", of("FK0K0RaaaeeD02").fewest(0, 1), 0);
    }

    private static void fairs() {
        WireFamily x = of(ONE_ROW);
        due("17: voices", x.fair(1000, 1000, 0), 3);
        due("17: voices", x.fair(1000, 1000, 1), 11);
        due("17: voices, hands", x.fair(1000, 100, 0), 4);
        due("17: no worth", x.fair(0, 0, 0), 6);
        due("17: no worth", x.fair(0, 0, 1), 10);
        due("17: none", x.fair(100, 1000, 0), 0);
        due("17: none", x.fair(100, 1000, 1), NONE);
        due("17: eyes, heart of nobody", x.fair(99, 99, 0), 6);
        due("17: highest", x.fair(9999, 9999, 0), 0);
        due("17: one", x.fair(-1, 0, 0), BAD);
        due("17: one", x.fair(10000, 0, 0), BAD);
        due("17: other", x.fair(0, -1, 0), BAD);
        due("17: other", x.fair(0, 10000, 0), BAD);
        due("17: what", x.fair(0, 0, 2), BAD);
        due("17: what", x.fair(9999, 9999, -1), BAD);
    }

    private static void judges() {
        WireFamily x = of(ONE_ROW);
        due("18: more", x.judge(1, 10), NONE);
        due("18: thrice less", x.judge(4, 0), 2);
        due("18: changed, joined", x.judge(2, 2030), NONE);
        due("18: less, less, changed", x.judge(3, 20), 2);
        due("18: row", x.judge(1, 11), 0);
        due("18: kind", x.judge(1, 40), 0);
        due("18: joined with a row", x.judge(2, 1031), 1);
        due("18: joined makes room", x.judge(4, 101030), NONE);
        due("18: highest", x.judge(4, 99999999), 0);
        due("18: n", x.judge(0, 0), BAD);
        due("18: n", x.judge(5, 0), BAD);
        due("18: row", x.judge(1, -1), BAD);
        due("18: figures", x.judge(1, 100), BAD);
        due("18: figures", x.judge(3, 1000000), BAD);
        due("18: figures", x.judge(4, 100000000), BAD);
        due("18: figures", x.judge(4, Integer.MAX_VALUE), BAD);
        due("18: the wire stays", x.about(4), 12);
        due("18: no acts", x.about(8), 0);
        due("18: gold stays", of("FK0RaaaaaRaaaaa").judge(2, 1030), NONE);
    }

    private static void share(WireFamily x, int kin, int half, int above, int below) {
        due("19: above, kin " + kin + ", half " + half, x.share(kin, half, true), above);
        due("19: below, kin " + kin + ", half " + half, x.share(kin, half, false), below);
    }

    private static void shares() {
        WireFamily x = of(ONE_ROW);
        share(x, 0, 1, 1, 1);
        share(x, 1, 1, 1, 3);
        share(x, 2, 1, 1, 3);
        share(x, 3, 1, 1, 3);
        share(x, 0, 0, 1, 3);
        share(x, 3, 0, 0, 1);
        share(x, 4, 0, UNKNOWN, UNKNOWN);
        share(x, -1, 9, UNKNOWN, UNKNOWN);
        share(x, 0, 2, BAD, BAD);
        share(x, 0, -1, BAD, BAD);
        // Two voices are needed: kin 0 with two, kin 1 and 2 with one each in the left half.
        WireFamily uneven = of("FK0K0K0RaaaaaReieieD02");
        share(uneven, 0, 0, 2, 3);
        share(uneven, 1, 0, 1, 6);
        // The infant stays parted, though others have not come.
        share(of("FK3K0RaaaaaD01"), 0, 0, 0, 1);
    }

    private static void sights() {
        WireFamily x = of(ONE_ROW);
        due("20: kin ahead of side", x.see(4, 9), UNKNOWN);
        due("20: kin", x.see(-1, 0), UNKNOWN);
        due("20: side", x.see(0, 3), BAD);
        due("20: side", x.see(0, -1), BAD);
        due("22: nothing seen", x.traces(0), 6);
        due("20: see", x.see(0, 2), 1);
        due("22: in both", x.traces(0), 4);
        due("22: in both", x.traces(1), 11);
        due("20: see", x.see(3, 1), 2);
        due("22: right alone", x.traces(0), 3);
        due("20: see", x.see(1, 0), 3);
        due("22: left alone", x.traces(0), 2);
        due("22: left alone", x.traces(1), 12);
        due("20: see the same", x.see(1, 0), 4);
        due("20: see", x.see(2, 2), 5);
        due("22: one cell in both", x.traces(0), 0);
        due("22: one cell in both", x.traces(1), NONE);
        due("20: sixth", x.see(2, 2), 6);
        due("20: seventh", x.see(2, 2), FULL);
        due("20: bad ahead of full", x.see(2, 3), BAD);
        due("22: what", x.traces(2), BAD);
        due("22: what", x.traces(-1), BAD);
        put(x, "FK0K0Raaaee");
        x.family();
        due("22: gone kin are passed over", x.traces(0), 0);
        due("21: unsee", x.unsee(), 6);
        due("21: unsee, none", x.unsee(), 0);
        due("22: nothing seen", x.traces(0), 6);
        x.see(1, 0);
        due("22: left alone", x.traces(1), 15);
        x.change(0);
        x.draw(0, 1);
        x.change(0);
        due("22: cells as they are", x.traces(1), 15);
    }

    private static void goneKinAndCellless() {
        WireFamily x = of("FK0K0Raaaee");
        x.see(1, 2);
        put(x, "FK0Raaaaa");
        x.family();
        due("22: kin there are not any more", x.traces(0), 6);
        due("22: still seen", x.about(9), 1);
        put(x, "FK0K0Raaaaa");
        x.family();
        for (int side = 0; side <= 2; side++) {
            x.unsee();
            x.see(1, side);
            due("22: without cells, " + side, x.traces(0), 0);
        }
    }

    private static void rest() {
        WireFamily one = of("FK0Raaaaa");
        due("23: one row", one.rests(0), 1);
        due("23: one row", one.rests(1), 0);
        WireFamily two = of("FK0RaaaaaRaaaaa");
        due("23: two rows", two.rests(0), 4);
        due("23: two rows", two.rests(1), 0);
        WireFamily three = of("FK0RaaaaaRaaaaaRaaaaa");
        due("23: three rows", three.rests(0), 1);
        due("23: three rows", three.rests(1), 11);
        for (int row = 0; row < 3; row++) {
            three.draw(row, 0);
        }
        three.draw(0, 0);
        due("23: at 0, 1, 1", three.rests(0), 2);
        due("23: at 0, 1, 1", three.rests(1), 1);
        three.draw(1, 0);
        three.draw(2, 0);
        due("23: at 0", three.rests(0), 0);
        due("23: at 0", three.rests(1), NONE);
        due("23: what", three.rests(2), BAD);
        due("23: what", three.rests(-1), BAD);
    }

    private static void slip(WireFamily x, int deed, int half, int tenths, int above, int below) {
        String what = "24: slips(" + deed + ", " + half + ", " + tenths + ")";
        due(what + " above", x.slips(deed, half, tenths, true), above);
        due(what + " below", x.slips(deed, half, tenths, false), below);
    }

    private static void slips() {
        WireFamily x = of(ONE_ROW);
        slip(x, 0, 0, 3, 1, 1);
        slip(x, 2, 0, 3, 0, 1);
        drawTo(x, 0, 2, 3);
        slip(x, 2, 0, 3, 3, 10);
        slip(x, 2, 0, 5, 1, 2);
        slip(x, 2, 0, 0, 0, 1);
        slip(x, 2, 0, 10, 1, 1);
        slip(x, 0, 1, 4, 3, 5);
        drawTo(x, 0, 3, 5);
        slip(x, 2, 0, 7, 1, 1);
        slip(x, 0, 1, 7, 0, 1);
        due("24: the wire stays", x.about(4), 15);
        slip(x, 3, 5, 5, UNKNOWN, UNKNOWN);
        slip(x, -1, 0, 0, UNKNOWN, UNKNOWN);
        slip(x, 0, 2, 0, BAD, BAD);
        slip(x, 0, -1, 0, BAD, BAD);
        slip(x, 0, 0, 11, BAD, BAD);
        slip(x, 0, 0, -1, BAD, BAD);
        // Five voices in two rows: at least one of the two must slip.
        slip(of("FK0RaaaaaRaaaaaD05"), 0, 0, 3, 51, 100);
        slip(of("FK0D01"), 0, 0, 3, 0, 1);
    }

    private static void seeds() {
        WireFamily x = new WireFamily();
        due("25: seed", x.seed(Long.MIN_VALUE), 0);
        due("25: seed", x.seed(0), Long.MIN_VALUE);
        due("26: m", x.years(0), BAD);
        due("26: m", x.years(31), BAD);
        due("26: m", x.years(-1), BAD);
        due("25: refused, the seed stays", x.seed(0), 0);
        due("26: nobody", x.years(1), 0);
        due("25: seed", x.seed(0), 1442695040888963407L);
        due("26: most years", x.years(30), 0);
    }

    /** By the seed 0 the years bring 15, 8, 1, 4, 13, 11, 8, 7, 0, 11, 15, 2. */
    private static void years() {
        int[] together = {1, 1, 2, 3, 6, 9, 12, 15, 18, 21, 22, 24};
        String text = "FK0K0K0K0RaaeeeRaaeeeRaaeeeRiiimmRaaeee";
        WireFamily x = of(text);
        x.draw(2, 1);
        for (int m = 1; m <= together.length; m++) {
            x.seed(0);
            due("26: years(" + m + ")", x.years(m), together[m - 1]);
        }
        due("26: the wire stays", x.about(4), 122322);
        due("26: gold stays", x.about(3), 0);
        due("26: acts stay", x.about(8), 1);
        due("26: cells stay", x.cell(3, 2, 0), 2);
        WireFamily parts = of(text);
        parts.draw(2, 1);
        due("26: a part", parts.years(3), 2);
        due("26: goes on from the wire as it is", parts.years(1), 3);
        due("25: the seed goes on", parts.seed(0), 7401132627792533940L);
    }

    private static void slots() {
        WireFamily x = of("FK0K0RafaaaRaaaaa");
        due("27: slot", x.keep(2), UNKNOWN);
        due("27: slot", x.keep(-1), UNKNOWN);
        due("28: slot", x.again(2), UNKNOWN);
        due("28: slot", x.again(-1), UNKNOWN);
        due("28: nothing kept", x.again(0), LATE);
        x.draw(0, 1);
        x.join();
        x.draw(1, 0);
        x.change(0);
        due("27: keep", x.keep(0), 1);
        due("27: acts stay", x.about(8), 4);
        due("28: the other one", x.again(1), LATE);
        x.change(0);
        x.join();
        due("27: keep", x.keep(1), 2);
        due("28: again", x.again(0), 1);
        due("28: gold", x.about(3), 1);
        due("28: wire", x.about(4), 121);
        due("28: cells", x.cell(0, 2, 0), 1);
        due("28: no acts", x.undo(), LATE);
        x.draw(1, 1);
        due("28: again once more", x.again(0), 1);
        due("28: wire", x.about(4), 121);
        due("28: again", x.again(1), 2);
        due("28: cells", x.cell(0, 1, 0), 1);
        due("27: keep over it", x.keep(0), 2);
        due("28: again", x.again(0), 2);
    }

    public static void main(String[] args) {
        aNewObject();
        writeAndWipe();
        faults();
        families();
        goldIsGoneWithTheFamily();
        abouts();
        cells();
        kins();
        halves();
        draws();
        changes();
        joins();
        undoes();
        bests();
        fewests();
        fairs();
        judges();
        shares();
        sights();
        goneKinAndCellless();
        rest();
        slips();
        seeds();
        years();
        slots();
        end();
    }
}
