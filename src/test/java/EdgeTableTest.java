/** The edges of what is told of a family and of acts: promises 6 to 14. */
public final class EdgeTableTest extends Checks {
    private static final String FIVE_ROWS = "FK0RaaaaaRaaaaaRaaaaaRaaaaaRaaaaa";
    /** One row of five kin: column by column kin 0, 1, 2, 3, 4. */
    private static final String ALL_KIN = "FK0K0K0K0K0Raeimq";
    private static final int[] OUT = {-1, -2, LEAST, MOST};

    private static void aboutWhat() {
        says("6 BAD: what is 0 .. 10");
        for (WireFamily x : new WireFamily[] {new WireFamily(), of(LONGEST)}) {
            due("about(-1)", x.about(-1), BAD);
            due("about(0)", x.about(0) >= 0 ? 1 : 0, 1);
            due("about(10)", x.about(10) >= 0 ? 1 : 0, 1);
            due("about(11)", x.about(11), BAD);
            due("about(LEAST)", x.about(LEAST), BAD);
            due("about(MOST)", x.about(MOST), BAD);
        }
    }

    private static void aboutLeastAndMost() {
        says("6 ROWS, KIN, DEEDS, from none to the most that there can be");
        WireFamily none = of("F");
        WireFamily most = of(LONGEST);
        int[] mostOf = {5, 5, 4};
        for (int what = 0; what <= 2; what++) {
            due("about(" + what + "), none", none.about(what), 0);
            due("about(" + what + "), most", most.about(what), mostOf[what]);
        }

        says("6 the WIRE (figures behind a 1), so that a 0 ahead is told");
        StringBuilder text = new StringBuilder("FK0");
        int[] least = {1, 10, 100, 1000, 10000, 100000};
        int[] first = {1, 12, 122, 1222, 12222, 122222};
        int[] farthest = {1, 15, 155, 1555, 15555, 155555};
        for (int rows = 0; rows <= 5; rows++) {
            WireFamily left = of(text.toString());
            due("the wire at 2", left.about(4), first[rows]);
            drawAllTo(left, rows, 0);
            due("the wire at 0", left.about(4), least[rows]);
            WireFamily right = of(text.toString());
            drawAllTo(right, rows, 5);
            due("the wire at 5", right.about(4), farthest[rows]);
            text.append("Raaaaa");
        }

        says("6 bytes of THE TEXT, from none to 56");
        WireFamily x = new WireFamily();
        due("none", x.about(10), 0);
        for (int n = 0; n < 60; n++) {
            x.write('F');
        }
        due("full", x.about(10), 56);
    }

    private static void parted() {
        says("6 who is PARTED (bits), from nobody to all five");
        due("nobody", of(ALL_KIN).about(6), 0);
        WireFamily all = of("FK0K1K2K3K0RaifemRnqriaRneqai");
        due("all", all.about(6), 31);
        says("Terms: PARTED are KIN that have CELLS in both halves");
        WireFamily last = of("FK0K0K0K0K0Raqqaa");
        due("kin 0 and 4", last.about(6), 17);
        due("kin without cells", last.kin(2, 1) + last.kin(2, 2), 0);
        due("all left", ofRowAt("FK0K0K0K0K0Raqqaa", 5).about(6), 0);
        due("all right", ofRowAt("FK0K0K0K0K0Raqqaa", 0).about(6), 0);
        due("one cell left", ofRowAt("FK0Raaaaa", 1).about(6), 1);
        due("one cell right", ofRowAt("FK0Raaaaa", 4).about(6), 1);
        due("an aunt too", of("FK1Raaaaa").about(6), 1);
        due("an uncle too", of("FK2Raaaaa").about(6), 1);
        due("an infant too", of("FK3Raaaaa").about(6), 1);
        due("in two rows", ofRowAt("FK0K0ReaaaaRaaaae", 1).about(6), 3);
    }

    private static void level() {
        says("2 WIRES are all LEVEL ones: how many");
        int[] wires = {1, 6, 16, 44, 122, 340};
        StringBuilder text = new StringBuilder("FK0");
        for (int rows = 0; rows <= 5; rows++) {
            due("wires of " + rows + " rows", of(text.toString()).about(7), wires[rows]);
            text.append("Raaaaa");
        }

        says("Terms: LEVEL, if nowhere it is more than 1 farther, or less far, than in the next ROW");
        for (int row = 0; row < 5; row++) {
            for (int way = 0; way <= 1; way++) {
                WireFamily x = of(FIVE_ROWS);
                due("by 1", x.draw(row, way), way == 1 ? 3 : 1);
                due("by 2", x.draw(row, way), LATE);
                due("ahead of it the other way", x.draw(row - 1, 1 - way), row == 0 ? UNKNOWN : LATE);
                due("behind it the other way", x.draw(row + 1, 1 - way), row == 4 ? UNKNOWN : LATE);
                due("acts", x.about(8), 1);
                due("back", x.draw(row, 1 - way), 2);
                due("acts", x.about(8), 2);
            }
        }
        says("Terms: LEVEL looks at the next ROW alone, not at the one behind that");
        WireFamily stairs = of(FIVE_ROWS);
        int[][] steps = {{0, 0}, {3, 1}, {4, 1}, {4, 1}, {1, 0}, {0, 0}};
        int[] at = {1, 3, 3, 4, 1, 0};
        for (int step = 0; step < steps.length; step++) {
            due("stairs", stairs.draw(steps[step][0], steps[step][1]), at[step]);
        }
        due("the wire", stairs.about(4), 101234);
    }

    private static void slips() {
        says("Terms: a SLIP is a ROW at which it is not where it is in the ROW ahead");
        due("one row, drawn", ofRowAt("FK0Raaaaa", 5).about(5), 0);
        WireFamily x = of(FIVE_ROWS);
        due("none", x.about(5), 0);
        x.draw(0, 1);
        due("at row 1", x.about(5), 1);
        x.draw(2, 1);
        due("at rows 1, 2, 3", x.about(5), 3);
        x.draw(4, 1);
        due("at all but the first", x.about(5), 4);
        x.draw(1, 1);
        x.draw(3, 1);
        due("level again", x.about(5), 0);
        x.draw(4, 0);
        due("at the last", x.about(5), 1);
    }

    private static void cellArguments() {
        says("7 UNKNOWN: row");
        WireFamily x = of(LONGEST);
        due("row 0", x.cell(0, 0, 0), 0);
        due("row 4", x.cell(4, 4, 0), 4);
        due("row 5", x.cell(5, 0, 0), UNKNOWN);
        for (int out : OUT) {
            due("row " + out, x.cell(out, 0, 0), UNKNOWN);
        }
        due("no row there", of("FK0").cell(0, 0, 0), UNKNOWN);
        due("row 1 of one", of("FK0Raaaaa").cell(1, 0, 0), UNKNOWN);
        says("7 BAD: column");
        due("column 0", x.cell(1, 0, 1), 1);
        due("column 4", x.cell(2, 4, 1), 2);
        due("column 5", x.cell(0, 5, 0), BAD);
        says("7 BAD: what");
        due("what 3", x.cell(0, 0, 3), 1);
        due("what 4", x.cell(0, 0, 4), BAD);
        for (int out : OUT) {
            due("column " + out, x.cell(0, out, 0), BAD);
            due("what " + out, x.cell(0, 0, out), BAD);
        }
        says("7 UNKNOWN is told ahead of BAD");
        due("cell(5, 5, 4)", x.cell(5, 5, 4), UNKNOWN);
        due("cell(-1, -1, 0)", x.cell(-1, -1, 0), UNKNOWN);
        due("cell(-1, 0, -1)", x.cell(-1, 0, -1), UNKNOWN);
        due("cell(0, 5, 4)", x.cell(0, 5, 4), BAD);
    }

    private static void halves() {
        says("Terms: THE WIRE is at 0 .. 5: CELLS of lesser COLUMNS are in the LEFT half, others in the RIGHT one");
        for (int place = 0; place <= 5; place++) {
            WireFamily x = ofRowAt(ALL_KIN, place);
            for (int column = 0; column < 5; column++) {
                int half = column < place ? 0 : 1;
                due("half of column " + column + ", wire at " + place, x.cell(0, column, 2), half);
                due("it counts for it", x.cell(0, column, 3), half == 0 ? 1 : 2);
                due("left of kin", x.kin(column, 1), 1 - half);
                due("right of kin", x.kin(column, 2), half);
            }
        }
    }

    private static void counts(String text, int place, int... want) {
        WireFamily x = ofRowAt(text, place);
        for (int column = 0; column < 5; column++) {
            due(text + " at " + place + ", column " + column, x.cell(0, column, 3), want[column]);
        }
    }

    private static void whoCounts() {
        says("Terms: COUNTS: a CELL for the half in which it is");
        counts("FK0Rabcda", 0, 2, 2, 2, 2, 2);
        counts("FK0Rabcda", 2, 1, 1, 2, 2, 2);
        counts("FK0Rabcda", 5, 1, 1, 1, 1, 1);
        says("Terms: COUNTS: one of an AUNT for both");
        counts("FK1Rabcda", 0, 3, 3, 3, 3, 3);
        counts("FK1Rabcda", 2, 3, 3, 3, 3, 3);
        counts("FK1Rabcda", 5, 3, 3, 3, 3, 3);
        says("Terms: COUNTS: a VOICE of an UNCLE for both");
        counts("FK2Rabcda", 0, 3, 2, 2, 2, 3);
        counts("FK2Rabcda", 2, 3, 1, 2, 2, 3);
        counts("FK2Rabcda", 5, 3, 1, 1, 1, 3);
        says("Terms: COUNTS: one of an INFANT for none, if that has CELLS in both halves");
        counts("FK3Rabcda", 0, 2, 2, 2, 2, 2);
        counts("FK3Rabcda", 1, 0, 0, 0, 0, 0);
        counts("FK3Rabcda", 4, 0, 0, 0, 0, 0);
        counts("FK3Rabcda", 5, 1, 1, 1, 1, 1);
        counts("FK3K0Raeeee", 1, 1, 2, 2, 2, 2);
        counts("FK3K0Raeeee", 0, 2, 2, 2, 2, 2);
        counts("FK3K3Raaeef", 2, 1, 1, 2, 2, 2);
        counts("FK3K3Raaeef", 3, 1, 1, 0, 0, 0);
        says("Terms: an INFANT has CELLS in both halves, in other ROWS too");
        WireFamily rows = of("FK0K3ReaaaaRaaaae");
        due("left", rows.cell(0, 0, 3), 0);
        due("right", rows.cell(1, 4, 3), 0);
        due("others", rows.cell(1, 0, 3), 1);
    }

    private static void kinArguments() {
        says("8 UNKNOWN");
        WireFamily x = of(LONGEST);
        due("kin 0", x.kin(0, 0), 0);
        due("kin 4", x.kin(4, 0), 0);
        due("kin 5", x.kin(5, 0), UNKNOWN);
        due("nobody there", of("F").kin(0, 0), UNKNOWN);
        due("kin 1 of one", of("FK0").kin(1, 0), UNKNOWN);
        due("kin 0 of one", of("FK3").kin(0, 0), 3);
        says("8 BAD");
        due("what 4", x.kin(0, 4), 0);
        due("what 5", x.kin(0, 5), BAD);
        for (int out : OUT) {
            due("kin " + out, x.kin(out, 0), UNKNOWN);
            due("what " + out, x.kin(0, out), BAD);
        }
        says("8 UNKNOWN is told ahead of BAD");
        due("kin(5, 5)", x.kin(5, 5), UNKNOWN);
        due("kin(-1, -1)", x.kin(-1, -1), UNKNOWN);
    }

    private static void kinIs(WireFamily x, int kin, int... want) {
        for (int what = 0; what < want.length; what++) {
            due("kin(" + kin + ", " + what + ")", x.kin(kin, what), want[what]);
        }
    }

    private static void kinCells() {
        says("8 how many CELLS it has in each half, how many COUNT: from none to all 25");
        WireFamily left = of(FIVE_ROWS);
        drawAllTo(left, 5, 5);
        kinIs(left, 0, 0, 25, 0, 25, 0);
        WireFamily right = of(FIVE_ROWS);
        drawAllTo(right, 5, 0);
        kinIs(right, 0, 0, 0, 25, 0, 25);
        kinIs(of(FIVE_ROWS.replace("K0", "K1")), 0, 1, 10, 15, 25, 25);
        kinIs(of(FIVE_ROWS.replace("K0", "K2")), 0, 2, 10, 15, 25, 25);
        kinIs(of(FIVE_ROWS.replace("K0", "K3")), 0, 3, 10, 15, 0, 0);
        kinIs(of("FK2Rbabab"), 0, 2, 2, 3, 3, 4);
        for (int kind = 0; kind <= 3; kind++) {
            kinIs(of("FK0K" + kind + "Raaaaa"), 1, kind, 0, 0, 0, 0);
            kinIs(of("FK" + kind), 0, kind, 0, 0, 0, 0);
        }
    }

    private static void hasAndCanArguments() {
        WireFamily x = of(LONGEST);
        says("9 BAD: half (0, 1), part (0 .. 3)");
        due("has(0, 0)", x.has(0, 0), 6);
        due("has(1, 3)", x.has(1, 3), 4);
        due("half 2", x.has(2, 0), BAD);
        due("part 4", x.has(0, 4), BAD);
        due("both", x.has(2, 4), BAD);
        says("10 BAD: half");
        due("half 2", x.can(2), BAD);
        for (int out : OUT) {
            says("9 BAD: half (0, 1), part (0 .. 3)");
            due("half " + out, x.has(out, 0), BAD);
            due("part " + out, x.has(0, out), BAD);
            says("10 BAD: half");
            due("half " + out, x.can(out), BAD);
        }
        due("half, nothing there", new WireFamily().can(2), BAD);
        due("half -1, nothing there", new WireFamily().has(-1, 0), BAD);
    }

    private static void hasLeastAndMost() {
        says("9 how many CELLS of a PART COUNT for a half, from none to all");
        WireFamily x = of(FIVE_ROWS);
        drawAllTo(x, 5, 5);
        due("left voices", x.has(0, 0), 25);
        due("right voices", x.has(1, 0), 0);
        due("left hands", x.has(0, 1), 0);
        WireFamily aunts = of(FIVE_ROWS.replace("K0", "K1"));
        due("aunts, left", aunts.has(0, 0), 25);
        due("aunts, right", aunts.has(1, 0), 25);
        WireFamily parts = of("FK0RabbccRcddddRdaaaa");
        int[][] want = {{2, 1, 1, 2}, {3, 1, 2, 3}};
        for (int half = 0; half <= 1; half++) {
            for (int part = 0; part <= 3; part++) {
                due("has(" + half + ", " + part + ")", parts.has(half, part), want[half][part]);
            }
        }
    }

    private static void canByNeed() {
        says("Terms: a half CAN do a DEED, if as many as it needs, or more, COUNT for it");
        for (int need = 1; need <= 9; need++) {
            // Of two rows the left half has four voices, the right one six.
            WireFamily x = of("FK0RaaaaaRaaaaaD0" + need);
            due("left, needs " + need, x.can(0), need <= 4 ? 1 : 0);
            due("right, needs " + need, x.can(1), need <= 6 ? 1 : 0);
            WireFamily nine = of("FK0RaaaaaRaaaabD0" + need);
            drawAllTo(nine, 2, 5);
            due("nine of nine, needs " + need, nine.can(0), 1);
            due("none, needs " + need, nine.can(1), 0);
        }
        says("10 DEEDS as bits, from none to all four");
        WireFamily x = of("FK0RabcdbD01D11D21D31");
        due("left", x.can(0), 3);
        due("right", x.can(1), 14);
        drawTo(x, 0, 2, 5);
        due("all", x.can(0), 15);
        due("none", x.can(1), 0);
        due("no deeds", of(FIVE_ROWS).can(0), 0);
        due("no rows", of("FK0D01").can(0), 0);
    }

    private static void drawArguments() {
        says("11 UNKNOWN");
        WireFamily x = of(FIVE_ROWS);
        due("row 5", x.draw(5, 0), UNKNOWN);
        due("no rows", of("FK0").draw(0, 0), UNKNOWN);
        due("row 1 of one", of("FK0Raaaaa").draw(1, 0), UNKNOWN);
        says("11 BAD: way (0, 1)");
        due("way 2", x.draw(0, 2), BAD);
        for (int out : OUT) {
            due("row " + out, x.draw(out, 0), UNKNOWN);
            due("way " + out, x.draw(0, out), BAD);
        }
        says("11 UNKNOWN is told ahead of BAD, BAD ahead of LATE");
        due("draw(5, 2)", x.draw(5, 2), UNKNOWN);
        due("draw(-1, -1)", x.draw(-1, -1), UNKNOWN);
        due("draw(0, 2) at 5", ofRowAt("FK0Raaaaa", 5).draw(0, 2), BAD);
        due("draw(0, -1) at 0", ofRowAt("FK0Raaaaa", 0).draw(0, -1), BAD);
        says("11 what is refused changes nothing");
        due("the wire", x.about(4), 122222);
        due("acts", x.about(8), 0);
        says("11 where the WIRE is in that ROW, in the first and the last");
        due("row 0", x.draw(0, 0), 1);
        due("row 4", x.draw(4, 1), 3);
        due("the wire", x.about(4), 112223);
    }

    private static void drawEnds() {
        says("11 LATE: it can not be (0 .. 5)");
        WireFamily x = of("FK0Raaaaa");
        for (int at = 3; at <= 5; at++) {
            due("more", x.draw(0, 1), at);
        }
        due("beyond 5", x.draw(0, 1), LATE);
        due("the wire", x.about(4), 15);
        due("acts", x.about(8), 3);
        for (int at = 4; at >= 0; at--) {
            due("less", x.draw(0, 0), at);
        }
        due("beyond 0", x.draw(0, 0), LATE);
        due("the wire", x.about(4), 10);
        due("acts", x.about(8), 8);
        due("undo goes by what was done", x.undo(), 7);
        due("the wire", x.about(4), 11);
    }

    private static void changeEnds() {
        says("12 LATE: one of the two there is not");
        int[] leftThen = {LATE, 1, 2, 3, 4, LATE};
        for (int place = 0; place <= 5; place++) {
            WireFamily x = ofRowAt(ALL_KIN, place);
            int acts = x.about(8);
            boolean well = place >= 1 && place <= 4;
            due("change at " + place, x.change(0), leftThen[place]);
            due("acts", x.about(8), well ? acts + 1 : acts);
            for (int column = 0; column < 5; column++) {
                int was = well && column == place - 1 ? place : well && column == place ? place - 1 : column;
                due("column " + column, x.cell(0, column, 0), was);
            }
            due("the wire", x.about(4), 10 + place);
        }
    }

    private static void changeArguments() {
        says("12 UNKNOWN");
        WireFamily x = of(FIVE_ROWS);
        due("row 5", x.change(5), UNKNOWN);
        for (int out : OUT) {
            due("row " + out, x.change(out), UNKNOWN);
        }
        due("no rows", of("FK0").change(0), UNKNOWN);
        due("row 1 of one, at 0", ofRowAt("FK0Raaaaa", 0).change(1), UNKNOWN);
        due("acts", x.about(8), 0);
        says("12 the two CELLS of a ROW change places, of that ROW alone");
        WireFamily rows = of("FK0K0RafaaaRafaaaRafaaaRafaaaRafaaa");
        due("change(4)", rows.change(4), 0);
        due("change(0)", rows.change(0), 0);
        int[] now = {2, 1, 1, 1, 2};
        for (int row = 0; row < 5; row++) {
            for (int column = 0; column < 5; column++) {
                due("row " + row, rows.cell(row, column, 0), column == now[row] ? 1 : 0);
                due("its part", rows.cell(row, column, 1), column == now[row] ? 1 : 0);
            }
        }
        says("12 CHANGED by two like CELLS is an ACT too");
        due("change(1)", x.change(1), 0);
        due("acts", x.about(8), 1);
    }

    private static void joins() {
        says("13 as much more GOLD as there are SLIPS, and the WIRE is at 2 in each ROW");
        WireFamily x = of(FIVE_ROWS);
        due("no slips", x.join(), 0);
        x.draw(0, 1);
        x.draw(2, 1);
        x.draw(4, 1);
        due("four slips", x.join(), 4);
        due("the wire", x.about(4), 122222);
        due("once more", x.join(), 4);
        x.draw(0, 0);
        due("one slip", x.join(), 5);
        due("gold", x.about(3), 5);
        drawAllTo(x, 5, 0);
        due("level at 0", x.join(), 5);
        due("the wire", x.about(4), 122222);
        WireFamily far = ofRowAt("FK0Raaaaa", 5);
        due("one row", far.join(), 0);
        due("the wire", far.about(4), 12);
        says("13 JOINED leaves CELLS as they are");
        WireFamily changed = of(ALL_KIN);
        changed.change(0);
        changed.join();
        due("cell", changed.cell(0, 1, 0), 2);
    }

    private static void undoes() {
        says("14 LATE: there is none");
        WireFamily x = of("FK0K0RaaeeeRaaeee");
        due("none", x.undo(), LATE);
        due("acts", x.about(8), 0);
        due("the wire", x.about(4), 122);
        says("14 the last ACT is undone: how many are left");
        x.draw(1, 1);
        x.change(1);
        x.join();
        x.draw(0, 0);
        due("undo a draw", x.undo(), 3);
        due("the wire", x.about(4), 122);
        due("gold", x.about(3), 1);
        due("undo a join", x.undo(), 2);
        due("the wire", x.about(4), 123);
        due("gold", x.about(3), 0);
        due("undo a change", x.undo(), 1);
        due("undo the first", x.undo(), 0);
        due("the wire", x.about(4), 122);
        due("none", x.undo(), LATE);
        says("14 an ACT that was refused is none");
        x.draw(9, 0);
        x.draw(0, 9);
        x.change(9);
        due("none", x.undo(), LATE);
    }

    /** The kin of all cells of a row, as figures. */
    private static int kinOfRow(WireFamily x, int row) {
        int figures = 0;
        for (int column = 0; column < 5; column++) {
            figures = 10 * figures + x.cell(row, column, 0);
        }
        return figures;
    }

    private static void undoneCells() {
        says("14 CHANGED is undone in the ROW where it was, at the WIRE as it was then");
        String rows = "FK0K0K0K0K0RaeimqRaeimqRaeimqRaeimqRaeimq";
        for (int row = 0; row < 5; row++) {
            for (int way = 0; way <= 1; way++) {
                WireFamily x = of(rows);
                x.draw(row, way);
                x.change(row);
                due("changed", kinOfRow(x, row), way == 0 ? 10234 : 1324);
                x.draw(row, 1 - way);
                x.change(row);
                x.join();
                due("undo join", x.undo(), 4);
                due("undo change", x.undo(), 3);
                due("undo draw", x.undo(), 2);
                due("changed once", kinOfRow(x, row), way == 0 ? 10234 : 1324);
                due("undo change", x.undo(), 1);
                due("undo draw", x.undo(), 0);
                for (int at = 0; at < 5; at++) {
                    due("as told, row " + at, kinOfRow(x, at), 1234);
                }
            }
        }
        says("14 DRAWN, JOINED are undone, and CELLS stay as they are");
        WireFamily x = of(rows);
        x.change(0);
        x.draw(4, 1);
        x.join();
        x.undo();
        due("undo", x.undo(), 1);
        due("row 0", kinOfRow(x, 0), 2134);
    }

    private static void fullActsByRow() {
        says("Terms: ACTS: when it is full, the first one is forgotten, and each other one stays what it was");
        WireFamily x = of("FK0K0K0K0K0RaeimqRaeimqRaeimqRaeimqRaeimq");
        for (int n = 0; n < 16; n++) {
            x.change(n * 2 % 5);
        }
        // Rows 0, 2, 4, 1, 3, again and again: rows 0 and 2 were the first ones.
        for (int left = 13; left >= 0; left--) {
            due("undo", x.undo(), left);
        }
        int[] want = {2134, 1234, 2134, 1234, 1234};
        for (int row = 0; row < 5; row++) {
            due("row " + row, kinOfRow(x, row), want[row]);
        }
        due("none", x.undo(), LATE);
    }

    /** Fifteen and more acts: joins among them, so that gold tells where undoing ends. */
    private static void fullActs() {
        says("Terms: ACTS are a row (14 at most; when it is full, the first one is forgotten)");
        WireFamily x = of("FK0RaaaaaRaaaaa");
        for (int n = 1; n <= 7; n++) {
            x.draw(1, 1);
            due("join", x.join(), n);
        }
        due("fourteen", x.about(8), 14);
        due("the 15th, a draw", x.draw(0, 1), 3);
        due("fourteen still", x.about(8), 14);
        due("the 16th, a join", x.join(), 8);
        due("the 17th, a join", x.join(), 8);
        due("fourteen still", x.about(8), 14);
        for (int left = 13; left >= 0; left--) {
            due("undo", x.undo(), left);
        }
        due("no more", x.undo(), LATE);
        // The first three (draw, join, draw) can not be undone any more.
        due("gold", x.about(3), 1);
        due("the wire", x.about(4), 123);

        says("Terms: ACTS: fourteen are undone one and all");
        WireFamily all = of("FK0K0Raaeee");
        for (int n = 1; n <= 14; n++) {
            all.change(0);
            due("acts", all.about(8), n);
        }
        for (int left = 13; left >= 0; left--) {
            due("undo", all.undo(), left);
            due("cell", all.cell(0, 1, 0), left % 2);
        }
        due("none", all.undo(), LATE);
        due("there is room anew", all.change(0), 1);
        due("acts", all.about(8), 1);
    }

    private static void fullActsRefused() {
        says("4 what is refused changes nothing: nothing is forgotten for an ACT that can not be");
        WireFamily x = ofRowAt("FK0K0Raaeee", 5);
        for (int n = 0; n < 5; n++) {
            x.draw(0, 0);
            x.draw(0, 1);
        }
        x.join();
        due("fourteen", x.about(8), 14);
        drawTo(x, 0, 2, 0);
        due("can not be", x.draw(0, 0), LATE);
        due("can not be", x.change(0), LATE);
        due("is not there", x.draw(1, 0), UNKNOWN);
        due("is not there", x.change(1), UNKNOWN);
        due("no way", x.draw(0, 2), BAD);
        for (int left = 13; left >= 0; left--) {
            due("undo", x.undo(), left);
        }
        due("the wire behind the first two draws", x.about(4), 14);
    }

    public static void main(String[] args) {
        aboutWhat();
        aboutLeastAndMost();
        parted();
        level();
        slips();
        cellArguments();
        halves();
        whoCounts();
        kinArguments();
        kinCells();
        hasAndCanArguments();
        hasLeastAndMost();
        canByNeed();
        drawArguments();
        drawEnds();
        changeEnds();
        changeArguments();
        joins();
        undoes();
        undoneCells();
        fullActs();
        fullActsByRow();
        fullActsRefused();
        end();
    }
}
