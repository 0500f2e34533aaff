/** Promises 1 to 5, and what the Terms say of rows. */
final class RowEdges {
    /** From its second hour on leaf 0 has 5 left, leaf 1 has 3, leaf 2 nothing, and goat 0 bites none. */
    private static final String STILL = "v0,1;s5,0,0;s3,0,0;h1,9,9;g1,9;";

    private RowEdges() {
    }

    static void all() {
        Edge.of(1, "No SQUARE.", RowEdges::newObjectHasNoSquare);
        Edge.of(1, " (none at first):", RowEdges::newObjectHasNothing);
        Edge.of(2, "ROWS 0 .. 7 are missing (at first)", RowEdges::rowsAreMissingAtFirst);
        Edge.of(2, ", or have a LANE (0 bytes, 1 shorts, 2 ints)", RowEdges::lanes);
        Edge.of(2, " and 0 to 40 ITEMS", RowEdges::noneToFortyItems);
        Edge.of(2, ", 0 at first.", RowEdges::itemsAreZeroAtFirst);
        Edge.of(2, "A ROW of a LANE with n ITEMS, in place of what is there: n.", RowEdges::rowInPlaceOfAnother);
        Edge.of(2, "BAD: ROW, LANE, n above 40;", RowEdges::badRow);
        Edge.of(2, " SIZE.", RowEdges::sizeOfRow);
        Edge.of(2, " 4 SIZE (fewer than none),", RowEdges::sizeIsFinding4);
        Edge.of(3, "ITEM i becomes v, its lowest bits, as many as the LANE has (read with their sign): what it is then.",
            RowEdges::itemsWrapAround);
        Edge.of(3, "ITEM i becomes v", RowEdges::oneItemAlone);
        Edge.of(3, "BAD: ROW;", RowEdges::badRowOfSet);
        Edge.of(3, " NULL;", RowEdges::nullOfSet);
        Edge.of(3, "-1000010 less 1 NULL (a ROW that is missing),", RowEdges::nullIsFinding1);
        Edge.of(3, " PLACE.", RowEdges::placeOfSet);
        Edge.of(3, " 2 PLACE (no such place of a ROW),", RowEdges::placeIsFinding2);
        Edge.of(4, "n ITEMS of a from i on come to b from j on,", RowEdges::copies);
        Edge.of(4, " as they were ahead: n.", RowEdges::copiesOverItself);
        Edge.of(4, "BAD: ROWS;", RowEdges::badRowsOfCopy);
        Edge.of(4, " NULL;", RowEdges::nullOfCopy);
        Edge.of(4, " STORE;", RowEdges::storeOfCopy);
        Edge.of(4, " 5 STORE (ROWS of two LANES).", RowEdges::storeIsFinding5);
        Edge.of(4, " PLACE (i, j, n below 0,", RowEdges::placeOfCopyBelow0);
        Edge.of(4, " or beyond an end).", RowEdges::placeOfCopyBeyond);
        Edge.of(5, "A ROW is missing from now on:", RowEdges::dropped);
        Edge.of(5, " how many ITEMS it had.", RowEdges::droppedOfAllLengths);
        Edge.of(5, "BAD;", RowEdges::badDrop);
        Edge.of(5, " NULL.", RowEdges::nullOfDrop);
    }

    private static void newObjectHasNoSquare() {
        new Run().all(0, "count(1)", "count(2)", "count(3)", "count(4)", "count(5)")
            .all(Run.STATE, "hours(1)", "force(0)", "gap(0)", "hangs(0, 1, 0)", "drives(0, 1, 0)", "harm(1, 0)",
                "rivals(0)", "wind(0, 0, 0)", "drawn(0, 1, 0)", "image(0)", "image(1)")
            .all(Run.BAD, "leaf(0, 0)", "goat(0, 0)", "hang(0, 0)", "salt(0)", "transcribe(0)", "drive(0, 0)",
                "fodder(0)", "ahead(0, 0)", "emptied(0)", "eats(0, 0)", "guilt(0, 1)", "bait(0, 1, 0)",
                "safeHeight(0, 1)", "kind(0)", "as(0, 0)", "ask(0, 0)");
    }

    private static void newObjectHasNothing() {
        new Run().all(Run.STATE, "undo()", "restore(0)", "restore(1)").due("trace(0)", Run.NONE)
            .all(0, "count(0)", "count(6)", "count(7)", "fault()", "status()");
    }

    private static void rowsAreMissingAtFirst() {
        for (int row = 0; row < 8; row++) {
            new Run().due("drop(" + row + ")", Run.NULL).due("row(" + row + ", 0, 1)", 1).due("count(0)", 1)
                .due("set(" + row + ", 0, 7)", 7).due("set(" + (row + 1) % 8 + ", 0, 7)", Run.NULL);
        }
        Run all = new Run();
        for (int row = 0; row < 8; row++) {
            all.does("row(" + row + ", 2, " + row + ")");
        }
        all.due("count(0)", 8);
        for (int row = 0; row < 8; row++) {
            all.due("drop(" + row + ")", row);
        }
        all.due("count(0)", 0);
        Edge.within(Made::rich, "row(#, 0, 1)", 0, 7);
    }

    private static void lanes() {
        new Run().due("row(0, 0, 1)", 1).due("set(0, 0, 40000)", 64)
            .due("row(0, 1, 1)", 1).due("set(0, 0, 40000)", -25536)
            .due("row(0, 2, 1)", 1).due("set(0, 0, 40000)", 40000);
        Edge.within(Made::rich, "row(0, #, 1)", 0, 2);
    }

    private static void noneToFortyItems() {
        new Run().due("row(0, 0, 0)", 0).due("count(0)", 1).due("set(0, 0, 1)", Run.PLACE)
            .due("row(0, 0, 1)", 1).due("set(0, 0, 1)", 1).due("set(0, 1, 1)", Run.PLACE)
            .due("row(0, 0, 39)", 39).due("set(0, 38, 1)", 1).due("set(0, 39, 1)", Run.PLACE)
            .due("row(0, 0, 40)", 40).due("set(0, 39, 1)", 1).due("set(0, 40, 1)", Run.PLACE)
            .due("row(0, 0, 41)", Run.BAD).due("row(0, 0, -1)", Run.SIZE);
    }

    private static void itemsAreZeroAtFirst() {
        for (int lane = 0; lane < 3; lane++) {
            still().does("row(6, " + lane + ", 40)").all(17, "strayed(2, 6, 0, 12)", "strayed(2, 6, 12, 12)",
                "strayed(2, 6, 24, 12)", "strayed(2, 6, 36, 4)");
        }
    }

    private static void rowInPlaceOfAnother() {
        Run run = still().does("row(0, 2, 40)");
        for (int i = 0; i < 40; i++) {
            run.does("set(0, " + i + ", 5)");
        }
        run.due("row(0, 0, 2)", 2).due("count(0)", 1).due("set(0, 2, 5)", Run.PLACE);
        dueItems(run, 0, 0, 0);
        run.due("set(0, 1, 261)", 5).due("row(0, 1, 40)", 40).due("count(0)", 1);
        run.all(17, "strayed(2, 0, 0, 12)", "strayed(2, 0, 12, 12)", "strayed(2, 0, 24, 12)", "strayed(2, 0, 36, 4)");
        run.due("set(0, 39, 261)", 261).due("row(0, 1, 0)", 0).due("set(0, 0, 1)", Run.PLACE).due("drop(0)", 0);
    }

    private static void badRow() {
        Edge.refused(Made::rich, Run.BAD, "row(-1, 0, 1)", "row(8, 0, 1)", "row(min, 0, 1)", "row(max, 0, 1)",
            "row(0, -1, 1)", "row(0, 3, 1)", "row(0, min, 1)", "row(0, max, 1)", "row(0, 0, 41)", "row(0, 0, max)",
            "row(1, 2, 41)", "row(8, 3, 41)");
        // Of these n alone would be SIZE: BAD comes ahead of it.
        Edge.refused(Made::rich, Run.BAD, "row(-1, 0, -1)", "row(8, 0, -1)", "row(0, -1, -1)", "row(0, 3, -1)");
    }

    private static void sizeOfRow() {
        Edge.refused(Made::rich, Run.SIZE, "row(0, 0, -1)", "row(0, 0, min)", "row(1, 2, -1)", "row(7, 0, -41)");
    }

    private static void sizeIsFinding4() {
        new Run().due("row(0, 0, -1)", -1000014).due("status()", 4).due("count(0)", 0);
    }

    private static void itemsWrapAround() {
        Run run = new Run().does("row(0, 0, 1)", "row(1, 1, 1)", "row(2, 2, 1)");
        long[][] bytes = {{-128, -128}, {127, 127}, {128, -128}, {-129, 127}, {255, -1}, {256, 0}, {-256, 0},
            {-255, 1}, {-1, -1}, {40000, 64}, {Integer.MAX_VALUE, -1}, {Integer.MIN_VALUE, 0}};
        long[][] shorts = {{-32768, -32768}, {32767, 32767}, {32768, -32768}, {-32769, 32767}, {65535, -1}, {65536, 0},
            {-65536, 0}, {-65535, 1}, {-1, -1}, {128, 128}, {Integer.MAX_VALUE, -1}, {Integer.MIN_VALUE, 0}};
        long[][] ints = {{Integer.MAX_VALUE, Integer.MAX_VALUE}, {Integer.MIN_VALUE, Integer.MIN_VALUE}, {-1, -1},
            {32768, 32768}, {-32769, -32769}, {65536, 65536}, {0, 0}};
        dueSet(run, 0, bytes);
        dueSet(run, 1, shorts);
        dueSet(run, 2, ints);
        // What the row holds is what was answered, not v.
        run = still().does("row(0, 0, 2)", "row(1, 1, 2)", "row(2, 2, 3)");
        run.due("set(0, 0, 261)", 5).due("set(0, 1, -253)", 3);
        dueItems(run, 0, 5, 3);
        run.due("set(1, 0, 65541)", 5).due("set(1, 1, 259)", 259);
        dueItems(run, 1, 5, 259);
        run.due("set(2, 0, 5)", 5).due("set(2, 1, 65541)", 65541).due("set(2, 2, -5)", -5);
        dueItems(run, 2, 5, 65541, -5);
    }

    private static void dueSet(Run run, int row, long[][] pairs) {
        for (long[] pair : pairs) {
            run.due("set(" + row + ", 0, " + pair[0] + ")", pair[1]);
        }
    }

    private static void oneItemAlone() {
        Run run = still().row(0, 0, 3, 3, 3).row(1, 0, 3, 3, 3).due("set(0, 1, 5)", 5);
        dueItems(run, 0, 3, 5, 3);
        dueItems(run, 1, 3, 3, 3);
        run.due("set(0, 0, 5)", 5).due("set(0, 2, 0)", 0);
        dueItems(run, 0, 5, 5, 0);
    }

    private static void badRowOfSet() {
        Edge.refused(RowEdges::rows, Run.BAD, "set(-1, 0, 1)", "set(8, 0, 1)", "set(min, 0, 1)", "set(max, 0, 1)");
        // A place that there is not is looked at later.
        Edge.refused(RowEdges::rows, Run.BAD, "set(-1, -1, 1)", "set(8, 40, 1)");
    }

    private static void nullOfSet() {
        Edge.refused(RowEdges::rows, Run.NULL, "set(4, 0, 1)", "set(7, 0, 1)", "set(4, -1, 1)", "set(4, 40, 1)");
        Edge.refused(Made::empty, Run.NULL, "set(0, 0, 1)", "set(7, 0, 1)");
    }

    private static void nullIsFinding1() {
        new Run().due("set(0, 0, 1)", -1000011).due("status()", 1);
    }

    private static void placeOfSet() {
        Edge.refused(RowEdges::rows, Run.PLACE, "set(0, -1, 1)", "set(0, 4, 1)", "set(0, min, 1)", "set(0, max, 1)",
            "set(1, 3, 1)", "set(2, 3, 1)", "set(3, 0, 1)", "set(3, -1, 1)");
        rows().due("set(0, 0, 1)", 1).due("set(0, 3, 1)", 1).due("set(1, 2, 1)", 1).due("set(2, 2, 1)", 1);
        new Run().does("row(0, 2, 40)").due("set(0, 0, 9)", 9).due("set(0, 39, 9)", 9).due("set(0, 40, 9)", Run.PLACE);
    }

    private static void placeIsFinding2() {
        new Run().does("row(0, 0, 0)").due("set(0, 0, 1)", -1000012).due("status()", 2);
    }

    private static void copies() {
        Run run = still().row(0, 0, 5, 3, 0, 5, 3).row(1, 0, 0, 0, 0, 0);
        run.due("copy(0, 1, 1, 2, 2)", 2);
        dueItems(run, 1, 0, 0, 3, 0);
        run.due("copy(0, 0, 1, 0, 1)", 1).due("copy(0, 4, 1, 3, 1)", 1);
        dueItems(run, 1, 5, 0, 3, 3);
        dueItems(run, 0, 5, 3, 0, 5, 3);
        run.due("copy(0, 5, 1, 4, 0)", 0).due("copy(0, 0, 1, 0, 0)", 0);
        dueItems(run, 1, 5, 0, 3, 3);
        run.due("copy(0, 0, 1, 0, 4)", 4);
        dueItems(run, 1, 5, 3, 0, 5);
        run = still().does("row(0, 2, 40)", "row(1, 2, 40)", "set(0, 0, 5)", "set(0, 39, 3)");
        run.due("copy(0, 0, 1, 0, 40)", 40).all(17, "strayed(0, 1, 0, 1)", "strayed(2, 1, 1, 1)",
            "strayed(2, 1, 38, 1)", "strayed(1, 1, 39, 1)");
        new Run().does("row(0, 0, 0)", "row(1, 0, 0)").due("copy(0, 0, 1, 0, 0)", 0).due("copy(0, 0, 0, 0, 0)", 0);
    }

    private static void copiesOverItself() {
        Run up = still().row(0, 0, 5, 3, 0, 0, 0).due("copy(0, 0, 0, 1, 4)", 4);
        dueItems(up, 0, 5, 5, 3, 0, 0);
        Run down = still().row(0, 0, 0, 0, 0, 3, 5).due("copy(0, 1, 0, 0, 4)", 4);
        dueItems(down, 0, 0, 0, 3, 5, 5);
        Run same = still().row(0, 0, 5, 3, 0).due("copy(0, 0, 0, 0, 3)", 3);
        dueItems(same, 0, 5, 3, 0);
    }

    private static void badRowsOfCopy() {
        Edge.refused(RowEdges::rows, Run.BAD, "copy(-1, 0, 0, 0, 1)", "copy(8, 0, 0, 0, 1)", "copy(0, 0, -1, 0, 1)",
            "copy(0, 0, 8, 0, 1)", "copy(min, 0, 0, 0, 1)", "copy(0, 0, max, 0, 1)");
        // Ahead of NULL, STORE and PLACE.
        Edge.refused(RowEdges::rows, Run.BAD, "copy(4, 0, 8, 0, 1)", "copy(8, 0, 4, 0, 1)", "copy(8, -1, 2, -1, -1)");
    }

    private static void nullOfCopy() {
        Edge.refused(RowEdges::rows, Run.NULL, "copy(4, 0, 0, 0, 1)", "copy(0, 0, 4, 0, 1)", "copy(4, 0, 4, 0, 0)",
            "copy(4, 0, 5, 0, 0)");
        // Ahead of PLACE.
        Edge.refused(RowEdges::rows, Run.NULL, "copy(4, -1, 0, 0, 1)", "copy(0, 9, 4, 0, 1)", "copy(2, 0, 4, 0, -1)");
    }

    private static void storeOfCopy() {
        Edge.refused(RowEdges::rows, Run.STORE, "copy(0, 0, 2, 0, 1)", "copy(2, 0, 0, 0, 1)", "copy(0, 0, 3, 0, 0)",
            "copy(3, 0, 2, 0, 0)");
        // Ahead of PLACE.
        Edge.refused(RowEdges::rows, Run.STORE, "copy(0, -1, 2, 0, 1)", "copy(0, 0, 2, 9, 1)", "copy(3, 0, 0, 0, -1)");
    }

    private static void storeIsFinding5() {
        new Run().does("row(0, 0, 1)", "row(1, 1, 1)").due("copy(0, 0, 1, 0, 1)", -1000015).due("status()", 5);
    }

    private static void placeOfCopyBelow0() {
        Edge.refused(RowEdges::rows, Run.PLACE, "copy(0, -1, 1, 0, 1)", "copy(0, 0, 1, -1, 1)", "copy(0, 0, 1, 0, -1)",
            "copy(0, min, 1, 0, 1)", "copy(0, 0, 1, min, 1)", "copy(0, 0, 1, 0, min)", "copy(0, 2, 1, 2, -1)",
            "copy(0, -1, 1, 0, 0)", "copy(0, 0, 1, -1, 0)", "copy(0, -1, 0, -1, 1)");
    }

    private static void placeOfCopyBeyond() {
        Edge.refused(RowEdges::rows, Run.PLACE, "copy(0, 4, 1, 0, 1)", "copy(0, 2, 1, 0, 3)", "copy(0, 5, 1, 0, 0)",
            "copy(0, 0, 1, 3, 1)", "copy(0, 0, 1, 1, 3)", "copy(0, 0, 1, 4, 0)", "copy(0, 0, 1, 0, 4)",
            "copy(1, 0, 0, 0, 4)", "copy(1, 0, 0, 2, 3)");
        // Numbers of which the sum would wrap around.
        Edge.refused(RowEdges::rows, Run.PLACE, "copy(0, max, 1, 0, 1)", "copy(0, 0, 1, max, 1)", "copy(0, 1, 1, 0, max)",
            "copy(0, max, 1, max, max)", "copy(0, 0, 1, max, max)");
        rows().due("copy(0, 3, 1, 2, 1)", 1).due("copy(0, 4, 1, 3, 0)", 0).due("copy(0, 1, 1, 0, 3)", 3);
    }

    private static void dropped() {
        Run run = rows().due("drop(0)", 4).due("count(0)", 3);
        run.all(Run.NULL, "drop(0)", "set(0, 0, 1)", "copy(0, 0, 1, 0, 1)", "copy(1, 0, 0, 0, 1)",
            "who(0, 0, 0, 0, 0, 1)", "strayed(0, 0, 0, 1)");
        dueItems(run, 1, 3, 3, 3);
        run.due("row(0, 0, 4)", 4).due("count(0)", 4);
        dueItems(run, 0, 0, 0, 0, 0);
    }

    private static void droppedOfAllLengths() {
        new Run().does("row(0, 0, 40)", "row(1, 1, 0)", "row(2, 2, 1)")
            .due("drop(0)", 40).due("drop(1)", 0).due("drop(2)", 1);
    }

    private static void badDrop() {
        Edge.within(() -> rows().does("row(7, 0, 1)"), "drop(#)", 0, 7);
    }

    private static void nullOfDrop() {
        Edge.refused(RowEdges::rows, Run.NULL, "drop(4)", "drop(7)");
        Edge.refused(() -> rows().does("drop(3)"), Run.NULL, "drop(3)");
    }

    private static Run still() {
        return Run.told(STILL).does("hours(1)");
    }

    /** Row 0 of four bytes, row 1 of three, row 2 of three shorts, row 3 of no ints; the finding is 3. */
    private static Run rows() {
        return still().row(0, 0, 5, 3, 0, 5).row(1, 0, 3, 3, 3).row(2, 1, 5, 5, 5).row(3, 2).does("as(0, 5)");
    }

    /** A leaf goes by an item, if as much is left of it in all hours; by other items none does. */
    private static void dueItems(Run run, int row, int... items) {
        for (int i = 0; i < items.length; i++) {
            for (int leaf = 0; leaf < 3; leaf++) {
                int left = leaf == 0 ? 5 : leaf == 1 ? 3 : 0;
                run.due("strayed(" + leaf + ", " + row + ", " + i + ", 1)", items[i] == left ? 17 : 0);
            }
        }
    }
}
