/** Promises 18 to 28, and what the Terms say of what is foretold by hours alone. */
final class ForetoldEdges {
    private ForetoldEdges() {
    }

    static void all() {
        Edge.of(18, "FORETOLD (nothing changes).", ForetoldEdges::nothingChanges);
        ahead();
        eaten();
        saved();
        harmed();
    }

    private static void ahead() {
        Edge.of(18, "AHEAD by n HOURS (0 to 60): how much of a LEAF is LEFT;", ForetoldEdges::aheadBy0To60);
        Edge.of(18, "AHEAD: LEFT.", ForetoldEdges::aheadOfVoidAndWhole);
        Edge.of(18, "BAD.", ForetoldEdges::badAhead);
        Edge.of(19, " which are IN FORCE (bits).", ForetoldEdges::forceBy0To60);
        Edge.of(19, "AHEAD: which are IN FORCE.", ForetoldEdges::forceOfAllAndNone);
        Edge.of(19, "BAD;", ForetoldEdges::badForce);
        Edge.of(19, " STATE: no SQUARE (ahead of BAD).", ForetoldEdges::forceWithoutSquare);
        Edge.of(20, "VOID: behind how many HOURS (0: it is; 60 at most) a LEAF is VOID first; NONE.",
            ForetoldEdges::emptiedBehind0To60);
        Edge.of(20, "VOID; NONE.", ForetoldEdges::neverEmptied);
        Edge.of(20, "BAD.", ForetoldEdges::badEmptied);
    }

    private static void eaten() {
        Edge.of(21, "EATS: how much a goat bites off in the next n HOURS (0 to 60), in all.",
            ForetoldEdges::eatsIn0To60);
        Edge.of(21, "EATS.", ForetoldEdges::eatsWhatIsLeft);
        Edge.of(21, "BAD.", ForetoldEdges::badEats);
        Edge.of(22, "GUILT of a LEAF for n HOURS (1 to 60): goats (bits) that bite it in them.",
            ForetoldEdges::guiltFor1To60);
        Edge.of(22, "GUILT.", ForetoldEdges::guiltOfAllAndNone);
        Edge.of(22, "BAD.", ForetoldEdges::badGuilt);
        Edge.of(23, "GAP for told LEAVES: behind how many HOURS (0: now; 60 at most) first none of them is IN FORCE; NONE.",
            ForetoldEdges::gapBehind0To60);
        Edge.of(23, "GAP; NONE.", ForetoldEdges::gapOfNoneAndAll);
        Edge.of(23, "Sets are bits.", ForetoldEdges::setsAreBits);
        Edge.of(23, " (LEAVES, goats told as bits: those there are alone, else BAD)", ForetoldEdges::toldBits);
        Edge.of(23, "BAD;", ForetoldEdges::badGap);
        Edge.of(23, " STATE: no SQUARE (ahead of BAD).", ForetoldEdges::gapWithoutSquare);
    }

    private static void saved() {
        String hang = "HANG for told LEAVES, n HOURS (1 to 30):";
        Edge.of(24, hang, ForetoldEdges::hangsFor1To30);
        hang += " the fewest LEAVES";
        Edge.of(24, hang, ForetoldEdges::hangsTheFewest);
        hang += " (of all that are not VOID) to be hung at HEIGHT 9 now";
        Edge.of(24, hang, ForetoldEdges::hangsAt9);
        hang += " so that all told ones are IN FORCE behind them: how many; which (bits), of several the least;";
        Edge.of(24, hang, ForetoldEdges::hangsTheLeast);
        Edge.of(24, hang + " NONE.", ForetoldEdges::hangsNone);
        Edge.of(24, "HANG: how many (what = 0), which (1); NONE.", ForetoldEdges::hangsNoneToSeven);
        Edge.of(24, "BAD;", ForetoldEdges::badHangs);
        Edge.of(24, " STATE: no SQUARE (ahead of BAD).", ForetoldEdges::hangsWithoutSquare);
        String drive = "DRIVE for told LEAVES, n HOURS (1 to 30):";
        Edge.of(25, drive, ForetoldEdges::drivesFor1To30);
        drive += " the fewest goats";
        Edge.of(25, drive, ForetoldEdges::drivesTheFewest);
        drive += " to be driven off all these HOURS";
        Edge.of(25, drive, ForetoldEdges::drivesAllTheseHours);
        drive += " so that all told ones are IN FORCE behind them: how many; which (bits), of several the least;";
        Edge.of(25, drive, ForetoldEdges::drivesTheLeast);
        Edge.of(25, drive + " NONE.", ForetoldEdges::drivesNone);
        Edge.of(25, "DRIVE: how many (what = 0), which (1); NONE.", ForetoldEdges::drivesNoneToFour);
        Edge.of(25, "BAD;", ForetoldEdges::badDrives);
        Edge.of(25, " STATE: no SQUARE (ahead of BAD).", ForetoldEdges::drivesWithoutSquare);
    }

    private static void harmed() {
        Edge.of(26, "HARM for n HOURS (1 to 60):", ForetoldEdges::harmFor1To60);
        Edge.of(26, " the goat without which (driven off all these HOURS) most LEAVES are IN FORCE behind them, "
            + "of several the first; how many are.", ForetoldEdges::harmOfSeveral);
        Edge.of(26, "HARM: which (what = 0), how many (1).", ForetoldEdges::harmOfAllAndNone);
        Edge.of(26, "BAD;", ForetoldEdges::badHarm);
        Edge.of(26, " STATE: no SQUARE (ahead of BAD).", ForetoldEdges::harmWithoutSquare);
        Edge.of(27, "BAIT for a LEAF, n HOURS (1 to 30):", ForetoldEdges::baitFor1To30);
        Edge.of(27, " the one other LEAF that is not VOID,", ForetoldEdges::baitIsAnotherNotVoid);
        Edge.of(27, " of which TASTE is 19 from now on,", ForetoldEdges::baitTastes19);
        Edge.of(27, " by which most of the first one is LEFT behind them, of several the first; how much;",
            ForetoldEdges::baitOfSeveral);
        Edge.of(27, " NONE: there is none.", ForetoldEdges::noBait);
        Edge.of(27, "BAIT: which (what = 0), how much (1); NONE.", ForetoldEdges::baitWhichAndHowMuch);
        Edge.of(27, "BAD.", ForetoldEdges::badBait);
        Edge.of(28, "HIGHEST: the least HEIGHT (0 to 9) at which, hung now,", ForetoldEdges::heights0To9);
        Edge.of(28, " a LEAF is bitten by no goat in the next n HOURS (1 to 60); NONE.",
            ForetoldEdges::safeHeightFor1To60);
        Edge.of(28, "HIGHEST; NONE.", ForetoldEdges::noSafeHeight);
        Edge.of(28, "BAD;", ForetoldEdges::badSafeHeight);
        Edge.of(28, " STATE: it is VOID.", ForetoldEdges::safeHeightOfVoid);
    }

    private static void nothingChanges() {
        Edge.seen(Made::rich, "ahead(0, 60)", "force(60)", "emptied(0)", "eats(1, 60)", "guilt(0, 60)", "gap(7)",
            "hangs(7, 30, 0)", "hangs(1, 1, 1)", "drives(7, 30, 0)", "drives(1, 1, 1)", "harm(60, 0)", "bait(0, 30, 0)",
            "safeHeight(0, 60)", "rivals(0)", "rivals(1)", "wind(2, 5, 0)", "drawn(60, 999999, 0)", "drawn(60, 3, 1)");
        // What was foretold before is not in what is foretold next.
        Run run = Made.bittenBehind(0, 20).does("ahead(0, 60)").due("eats(0, 3)", 3).due("eats(0, 3)", 3)
            .does("guilt(0, 60)").due("guilt(0, 1)", 1).does("drive(0, 60)").due("guilt(0, 60)", 0).due("eats(0, 60)", 0);
        run.does("drawn(60, 1, 1)").due("drawn(0, 1, 1)", 0);
    }

    private static void aheadBy0To60() {
        Made.bittenBehind(41, 20).due("ahead(0, 0)", 20).due("ahead(0, 1)", 20).due("ahead(0, 41)", 20)
            .due("ahead(0, 42)", 19).due("ahead(0, 59)", 2).due("ahead(0, 60)", 1);
        Run.told("v0,1;s5,0,0;g3,0;").due("ahead(0, 0)", 5).due("ahead(0, 1)", 3).due("ahead(0, 2)", 1)
            .due("ahead(0, 3)", 1);
        // HOUR may be above 999 in what is foretold.
        Made.at(999).due("ahead(0, 60)", 20).due("ahead(1, 60)", 5).due("force(60)", 3).due("emptied(0)", Run.NONE);
    }

    private static void aheadOfVoidAndWhole() {
        Made.voided().due("ahead(0, 0)", 0).due("ahead(0, 60)", 0).due("ahead(1, 0)", 9).due("ahead(1, 1)", 8)
            .due("ahead(1, 9)", 0).due("ahead(1, 60)", 0);
    }

    private static void badAhead() {
        Edge.within(Made::rich, "ahead(#, 7)", 0, 2);
        Edge.within(Made::rich, "ahead(1, #)", 0, 60);
        Edge.refused(Made::bare, Run.BAD, "ahead(0, 0)", "ahead(0, 61)");
    }

    private static void forceBy0To60() {
        Made.bittenBehind(50, 20).due("force(0)", 1).due("force(59)", 1).due("force(60)", 1);
        Made.bittenBehind(49, 20).due("force(59)", 1).due("force(60)", 0);
        Made.bittenBehind(0, 3).due("force(0)", 1).due("force(1)", 1).due("force(2)", 0).due("force(3)", 0);
    }

    private static void forceOfAllAndNone() {
        Run.told("v0,1;" + "h1,0,0;".repeat(7) + "g0,0;").due("force(0)", 127).due("force(60)", 127);
        Run all = Run.told("v0,1;" + "h1,0,0;".repeat(7) + "g40,0;");
        for (int n = 0; n <= 7; n++) {
            all.due("force(" + n + ")", 127 - ((1 << n) - 1));
        }
        all.due("force(60)", 0);
    }

    private static void badForce() {
        Edge.within(Made::rich, "force(#)", 0, 60);
    }

    private static void forceWithoutSquare() {
        Edge.refused(Made::bare, Run.STATE, "force(0)", "force(60)", "force(-1)", "force(61)");
    }

    private static void emptiedBehind0To60() {
        Made.voided().due("emptied(0)", 0).due("emptied(1)", 9);
        Made.bittenBehind(0, 1).due("emptied(0)", 1);
        Made.bittenBehind(58, 1).due("emptied(0)", 59);
        Made.bittenBehind(59, 1).due("emptied(0)", 60);
        Made.bittenBehind(60, 1).due("emptied(0)", Run.NONE);
        Made.bittenBehind(40, 20).due("emptied(0)", 60);
        Made.bittenBehind(41, 20).due("emptied(0)", Run.NONE);
    }

    private static void neverEmptied() {
        Run.told("v9,1;h1,9,0;g40,8;").due("emptied(0)", Run.NONE).does("hang(0, 8)").due("emptied(0)", 1);
        Run.told("v0,1;h2,0,0;g1,0;").due("emptied(0)", Run.NONE);
    }

    private static void badEmptied() {
        Edge.within(Made::rich, "emptied(#)", 0, 2);
        Edge.refused(Made::bare, Run.BAD, "emptied(0)");
    }

    private static void eatsIn0To60() {
        Made.bittenBehind(59, 20).due("eats(0, 0)", 0).due("eats(0, 59)", 0).due("eats(0, 60)", 1);
        Made.bittenBehind(60, 20).due("eats(0, 60)", 0);
        Made.bittenBehind(0, 20).due("eats(0, 0)", 0).due("eats(0, 1)", 1).due("eats(0, 19)", 19).due("eats(0, 60)", 20);
    }

    private static void eatsWhatIsLeft() {
        Run.told("v0,1;s3,0,0;h9,0,0;g1,0;g9,0;g0,0;").due("eats(0, 60)", 2).due("eats(1, 1)", 1).due("eats(1, 2)", 2)
            .due("eats(1, 60)", 9).due("eats(2, 60)", 0);
        // What it ate before does not count.
        Made.bittenBehind(0, 20).does("hours(5)").due("eats(0, 0)", 0).due("eats(0, 1)", 1);
    }

    private static void badEats() {
        Edge.within(Made::rich, "eats(#, 7)", 0, 1);
        Edge.within(Made::rich, "eats(1, #)", 0, 60);
        Edge.refused(Made::bare, Run.BAD, "eats(0, 0)", "eats(0, 61)");
    }

    private static void guiltFor1To60() {
        Made.bittenBehind(59, 20).due("guilt(0, 1)", 0).due("guilt(0, 59)", 0).due("guilt(0, 60)", 1);
        Made.bittenBehind(60, 20).due("guilt(0, 60)", 0);
        Made.bittenBehind(0, 20).due("guilt(0, 1)", 1);
    }

    private static void guiltOfAllAndNone() {
        Run.told("v0,1;h4,0,0;h9,0,0;g1,0;g1,0;g1,0;g1,0;").due("guilt(0, 1)", 15).due("guilt(0, 60)", 15)
            .due("guilt(1, 60)", 0);
        Run.told("v0,1;h3,0,0;g1,0;g1,0;g1,0;g1,0;").due("guilt(0, 1)", 7).due("guilt(0, 60)", 7);
        // Who bit it before is not guilty in what comes, and a void one is bitten by none.
        Made.bittenBehind(0, 1).does("hours(1)").due("guilt(0, 60)", 0);
        Made.voided().due("guilt(0, 60)", 0).due("guilt(1, 1)", 1);
    }

    private static void badGuilt() {
        Edge.within(Made::rich, "guilt(#, 7)", 0, 2);
        Edge.within(Made::rich, "guilt(1, #)", 1, 60);
        Edge.refused(Made::bare, Run.BAD, "guilt(0, 1)", "guilt(0, 0)");
    }

    private static void gapBehind0To60() {
        Made.voided().due("gap(1)", 0).due("gap(2)", 5).due("gap(3)", 5);
        Made.bittenBehind(0, 1).due("gap(1)", 1);
        Made.bittenBehind(59, 1).due("gap(1)", 60);
        Made.bittenBehind(60, 1).due("gap(1)", Run.NONE);
        // Of 20 the eleventh bite makes a preamble.
        Made.bittenBehind(49, 20).due("gap(1)", 60);
        Made.bittenBehind(50, 20).due("gap(1)", Run.NONE);
        Made.bittenBehind(0, 3).due("gap(1)", 2).does("hours(1)").due("gap(1)", 1).does("hours(1)").due("gap(1)", 0);
    }

    private static void gapOfNoneAndAll() {
        Run run = Run.told("v0,1;h1,0,0;h1,0,0;h1,9,0;g2,0;").due("gap(0)", 0).due("gap(1)", 1).due("gap(2)", 2)
            .due("gap(3)", 2).due("gap(4)", Run.NONE).due("gap(7)", Run.NONE);
        run.does("hang(2, 0)").due("gap(7)", Run.NONE);
        Run.told("v0,1;" + "h1,0,0;".repeat(7) + "g40,0;").due("gap(127)", 7).due("gap(64)", 7).due("gap(63)", 6)
            .due("gap(1)", 1);
    }

    private static void setsAreBits() {
        Run.told("v0,1;h1,0,0;h1,9,0;h1,0,0;g1,0;g1,0;").due("count(4)", 7).due("force(1)", 2).due("guilt(2, 1)", 2)
            .due("guilt(0, 1)", 1).due("gap(5)", 1).due("gap(2)", Run.NONE).due("hangs(4, 1, 1)", 4)
            .due("drives(4, 1, 1)", 1).due("drives(5, 1, 1)", 3);
    }

    private static void toldBits() {
        for (int leaves = 1; leaves <= 7; leaves++) {
            String text = "v0,1;" + "h9,9,0;".repeat(leaves) + "g0,0;";
            int all = (1 << leaves) - 1;
            Run.told(text).due("gap(" + all + ")", Run.NONE).due("gap(" + (all + 1) + ")", Run.BAD)
                .due("hangs(" + all + ", 1, 0)", 0).due("hangs(" + (all + 1) + ", 1, 0)", Run.BAD)
                .due("drives(" + all + ", 1, 0)", 0).due("drives(" + (all + 1) + ", 1, 0)", Run.BAD);
        }
    }

    private static void badGap() {
        Edge.within(Made::rich, "gap(#)", 0, 7);
        Edge.refused(Made::rich, Run.BAD, "gap(8)", "gap(9)", "gap(64)", "gap(128)", "gap(65536)");
    }

    private static void gapWithoutSquare() {
        Edge.refused(Made::bare, Run.STATE, "gap(0)", "gap(1)", "gap(-1)", "gap(128)");
    }

    private static void hangsFor1To30() {
        dueHangs(Made.bittenBehind(19, 20), 1, 29, 0, 0);
        dueHangs(Made.bittenBehind(19, 20), 1, 30, 1, 1);
        dueHangs(Made.bittenBehind(20, 20), 1, 30, 0, 0);
        dueHangs(Made.bittenBehind(0, 1), 1, 1, 1, 1);
        dueHangs(Made.bittenBehind(1, 1), 1, 1, 0, 0);
    }

    private static void hangsTheFewest() {
        // Leaf 2 alone saves itself; so do leaves 0 and 1 together (their bits are less), but neither of them alone.
        dueHangs(Run.told("v0,1;s1,3,2;s3,3,3;s4,3,2;g4,9;g2,3;"), 4, 4, 1, 4);
    }

    private static void hangsAt9() {
        dueHangs(Run.told("v0,1;h1,0,0;g1,8;"), 1, 30, 1, 1);
        dueHangs(Run.told("v0,1;h1,0,0;g1,9;"), 1, 1, Run.NONE, Run.NONE);
        dueHangs(Run.told("v0,1;h1,9,0;g1,8;"), 1, 30, 0, 0);
        // Void ones are not hung, others are.
        Run run = Run.told("v0,1;h1,0,9;h1,0,0;g9,8;").does("hours(1)");
        dueHangs(run, 2, 1, 1, 2);
        dueHangs(run, 1, 1, Run.NONE, Run.NONE);
        dueHangs(run, 0, 30, 0, 0);
    }

    private static void hangsTheLeast() {
        // Goat 0 bites leaf 0, and goat 1 leaf 2 empty, so leaf 1 is next. Were leaf 0 hung, goat 0 would have its
        // fill of leaf 2; leaf 1 may be hung as well.
        Run run = Run.told("v0,1;h1,0,9;h1,3,3;s2,0,5;g2,3;g2,0;").due("force(2)", 0);
        dueHangs(run, 2, 2, 1, 1);
        run.does("hang(1, 9)").due("force(2)", 2).does("undo()", "hang(0, 9)").due("force(2)", 3);
    }

    private static void hangsNone() {
        dueHangs(Made.voided(), 1, 1, Run.NONE, Run.NONE);
        dueHangs(Made.voided(), 3, 30, Run.NONE, Run.NONE);
        dueHangs(Made.voided(), 2, 30, 1, 2);
        // A preamble does not come into force again.
        dueHangs(Run.told("v0,1;s3,0,0;g2,0;").does("hours(1)"), 1, 1, Run.NONE, Run.NONE);
    }

    private static void hangsNoneToSeven() {
        Run run = Run.told("v0,1;" + "h1,0,0;".repeat(7) + "g40,8;".repeat(4));
        dueHangs(run, 0, 1, 0, 0);
        dueHangs(run, 127, 1, 7, 127);
        dueHangs(run, 127, 30, 7, 127);
        dueHangs(run, 64, 1, 0, 0);
        dueHangs(run, 64, 2, 1, 64);
    }

    private static void badHangs() {
        Edge.within(Made::rich, "hangs(#, 2, 0)", 0, 7);
        Edge.within(Made::rich, "hangs(1, #, 0)", 1, 30);
        Edge.within(Made::rich, "hangs(1, 2, #)", 0, 1);
    }

    private static void hangsWithoutSquare() {
        Edge.refused(Made::bare, Run.STATE, "hangs(0, 1, 0)", "hangs(-1, 1, 0)", "hangs(0, 0, 0)", "hangs(0, 31, 0)",
            "hangs(0, 1, 2)", "hangs(1, 1, 1)");
    }

    private static void dueHangs(Run run, int leaves, int n, int many, int which) {
        run.due("hangs(" + leaves + ", " + n + ", 0)", many).due("hangs(" + leaves + ", " + n + ", 1)", which);
    }

    private static void drivesFor1To30() {
        dueDrives(Made.bittenBehind(19, 20), 1, 29, 0, 0);
        dueDrives(Made.bittenBehind(19, 20), 1, 30, 1, 1);
        dueDrives(Made.bittenBehind(20, 20), 1, 30, 0, 0);
        dueDrives(Made.bittenBehind(0, 1), 1, 1, 1, 1);
        dueDrives(Made.bittenBehind(1, 1), 1, 1, 0, 0);
    }

    private static void drivesTheFewest() {
        // Goats 0 and 1 bite once each, goat 2 twice; two bites may be: without goats 0 and 1, or without goat 2.
        dueDrives(Run.told("v0,1;s8,0,3;g2,0;g2,0;g4,0;"), 1, 2, 1, 4);
    }

    private static void drivesAllTheseHours() {
        // It is driven off for one hour yet, and is to be for all.
        Run run = Run.told("v0,1;h1,0,0;g9,0;").does("drive(0, 1)");
        dueDrives(run, 1, 1, 0, 0);
        dueDrives(run, 1, 2, 1, 1);
        dueDrives(run, 1, 30, 1, 1);
    }

    private static void drivesTheLeast() {
        dueDrives(Run.told("v0,1;h2,0,0;g1,0;g1,0;g1,0;g1,0;"), 1, 1, 3, 7);
        dueDrives(Run.told("v0,1;h4,0,0;g0,0;g9,0;g9,0;g9,0;"), 1, 1, 1, 2);
        dueDrives(Run.told("v0,1;h1,0,0;h1,3,0;g9,0;g9,3;"), 2, 1, 1, 1);
    }

    private static void drivesNone() {
        dueDrives(Made.voided(), 1, 1, Run.NONE, Run.NONE);
        dueDrives(Made.voided(), 3, 30, Run.NONE, Run.NONE);
        dueDrives(Run.told("v0,1;s3,0,0;g2,0;").does("hours(1)"), 1, 1, Run.NONE, Run.NONE);
    }

    private static void drivesNoneToFour() {
        Run run = Run.told("v0,1;s1,0,0;g9,0;g9,0;g9,0;g9,0;");
        dueDrives(run, 0, 30, 0, 0);
        dueDrives(run, 1, 1, 4, 15);
        dueDrives(run, 1, 30, 4, 15);
    }

    private static void badDrives() {
        Edge.within(Made::rich, "drives(#, 2, 0)", 0, 7);
        Edge.within(Made::rich, "drives(1, #, 0)", 1, 30);
        Edge.within(Made::rich, "drives(1, 2, #)", 0, 1);
    }

    private static void drivesWithoutSquare() {
        Edge.refused(Made::bare, Run.STATE, "drives(0, 1, 0)", "drives(-1, 1, 0)", "drives(0, 0, 0)",
            "drives(0, 31, 0)", "drives(0, 1, 2)", "drives(1, 1, 1)");
    }

    private static void dueDrives(Run run, int leaves, int n, int many, int which) {
        run.due("drives(" + leaves + ", " + n + ", 0)", many).due("drives(" + leaves + ", " + n + ", 1)", which);
    }

    private static void harmFor1To60() {
        Run.told("v0,1;h1,0,0;g0,0;g1,0;").does("drive(1, 59)").due("harm(59, 0)", 0).due("harm(59, 1)", 1)
            .due("harm(60, 0)", 1).due("harm(60, 1)", 1);
        Run.told("v0,1;h1,0,0;g0,0;g1,0;").does("drive(1, 60)").due("harm(60, 0)", 0).due("harm(60, 1)", 1);
        Run.told("v0,1;h1,0,0;g0,0;g1,0;").due("harm(1, 0)", 1).due("harm(1, 1)", 1);
    }

    private static void harmOfSeveral() {
        // In the first hour each of goats 1 to 3 bites a leaf empty, in the second goat 3 alone the last one.
        Run run = Run.told("v0,1;h1,1,9;h1,2,9;h1,3,9;h1,3,8;g0,9;g1,1;g1,2;g2,3;");
        run.due("harm(1, 0)", 1).due("harm(1, 1)", 2).due("harm(2, 0)", 3).due("harm(2, 1)", 2);
        // Most leaves, not most that is left: without goat 0 that is 20 of one, without goat 1 19 of two.
        Run.told("v0,1;s20,0,5;h1,3,9;g9,0;g1,3;").due("harm(1, 0)", 1).due("harm(1, 1)", 2);
        // Driven off all these hours, not for the one that it is.
        Run.told("v0,1;h1,0,0;g0,0;g9,0;").does("drive(1, 1)").due("harm(1, 0)", 0).due("harm(2, 0)", 1)
            .due("harm(2, 1)", 1);
    }

    private static void harmOfAllAndNone() {
        Run.told("v0,1;" + "h1,0,0;".repeat(7) + "g0,0;".repeat(4)).due("harm(60, 0)", 0).due("harm(60, 1)", 7);
        Run.told("v0,1;" + "h1,0,0;".repeat(7) + "g0,0;g0,0;g0,0;g9,0;").due("harm(60, 0)", 3).due("harm(60, 1)", 7);
        Run.told("v0,1;h1,0,0;g9,0;g9,0;").due("harm(1, 0)", 0).due("harm(1, 1)", 0);
        Run.told("v0,1;h1,0,0;g9,0;").due("harm(60, 0)", 0).due("harm(60, 1)", 1).does("hours(1)")
            .due("harm(60, 0)", 0).due("harm(60, 1)", 0);
    }

    private static void badHarm() {
        Edge.within(Made::rich, "harm(#, 0)", 1, 60);
        Edge.within(Made::rich, "harm(7, #)", 0, 1);
    }

    private static void harmWithoutSquare() {
        Edge.refused(Made::bare, Run.STATE, "harm(1, 0)", "harm(0, 0)", "harm(61, 0)", "harm(1, 2)", "harm(1, -1)");
    }

    private static void baitFor1To30() {
        // The bait hangs out of reach, so it does not help.
        Run.told("v0,1;h1,0,1;h9,9,0;g1,0;").does("drive(0, 29)").due("bait(0, 1, 1)", 1).due("bait(0, 29, 1)", 1)
            .due("bait(0, 30, 1)", 0).due("bait(0, 30, 0)", 1);
        Run.told("v0,1;h1,0,1;h9,9,0;g1,0;").due("bait(0, 1, 1)", 0);
        // It helps for nine hours.
        Run.told("v0,1;h9,0,1;h9,0,0;g40,0;").due("bait(0, 9, 1)", 9).due("bait(0, 10, 1)", 8).due("bait(0, 18, 1)", 0);
    }

    private static void baitIsAnotherNotVoid() {
        Run.told("v0,1;h9,0,0;g9,0;").due("bait(0, 1, 0)", Run.NONE);
        Made.voided().due("bait(1, 1, 0)", Run.NONE).due("bait(0, 1, 0)", 1).due("bait(0, 1, 1)", 0);
        Run.told("v0,1;h1,0,9;h9,0,3;h9,9,0;g9,0;").does("hours(1)").due("bait(1, 1, 0)", 2).due("bait(1, 1, 1)", 8);
        // A preamble may be one.
        Run.told("v0,1;s3,0,9;h9,0,3;g9,0;").does("hours(1)").due("bait(1, 1, 0)", 0).due("bait(1, 1, 1)", 9);
    }

    private static void baitTastes19() {
        Run below = Run.told("v0,1;h9,0,9;h9,0,0;g9,0;").does(repeated("salt(0)", 9)).due("leaf(0, 2)", 18);
        below.due("bait(0, 1, 1)", 9).does("salt(0)").due("bait(0, 1, 1)", 8);
        // 19 whatever it was: 9, 0, 19.
        Run.told("v0,1;h9,0,9;h9,0,9;g9,0;").does(repeated("salt(0)", 10)).due("bait(0, 1, 1)", 8);
        Run first = Run.told("v0,1;h9,0,0;h9,0,9;g9,0;").does(repeated("salt(1)", 10)).due("leaf(1, 2)", 19);
        first.due("bait(1, 1, 1)", 9).due("bait(0, 1, 1)", 9);
        // A bitter bait is liked by 16, a thorny one in even hours alone, a salted one by SALT more.
        Run bitter = Run.told("v0,1;h9,0,9;b9,0,0;g9,0;").does(repeated("salt(0)", 6)).due("bait(0, 1, 1)", 9);
        bitter.does("salt(0)").due("bait(0, 1, 1)", 8);
        Run.told("v0,1;h9,0,9;t9,0,0;g9,0;").due("bait(0, 1, 1)", 9).due("bait(0, 2, 1)", 8).due("bait(0, 3, 1)", 8);
        Run salted = Run.told("v0,1;h9,0,9;a9,0,0;g9,0;").does(repeated("salt(0)", 10)).due("bait(0, 1, 1)", 9);
        salted.due("leaf(1, 2)", 0);
    }

    private static String[] repeated(String call, int times) {
        String[] calls = new String[times];
        java.util.Arrays.fill(calls, call);
        return calls;
    }

    private static void baitOfSeveral() {
        Run run = Run.told("v0,1;h9,0,5;h1,0,0;h9,0,0;h9,0,0;g9,0;").due("bait(0, 1, 0)", 1).due("bait(0, 1, 1)", 9);
        run.due("bait(0, 2, 0)", 2).due("bait(0, 2, 1)", 9).due("bait(2, 1, 0)", 0).due("bait(2, 1, 1)", 9);
        // The last of seven, and the first, where none helps.
        Run.told("v0,1;h9,0,5;" + "h9,9,0;".repeat(5) + "h9,0,0;g9,0;").due("bait(0, 1, 0)", 6).due("bait(0, 1, 1)", 9)
            .does("hang(6, 9)").due("bait(0, 1, 0)", 1).due("bait(0, 1, 1)", 8);
    }

    private static void noBait() {
        Run.told("v0,1;h9,0,0;g9,0;").due("bait(0, 1, 0)", Run.NONE).due("bait(0, 1, 1)", Run.NONE)
            .due("bait(0, 30, 1)", Run.NONE);
        Made.voided().due("bait(1, 1, 0)", Run.NONE).due("bait(1, 1, 1)", Run.NONE);
    }

    private static void baitWhichAndHowMuch() {
        Run.told("v0,1;s20,0,0;h20,0,0;g0,0;").due("bait(0, 30, 0)", 1).due("bait(0, 30, 1)", 20)
            .due("bait(1, 30, 0)", 0).due("bait(1, 30, 1)", 20);
    }

    private static void badBait() {
        Edge.within(Made::rich, "bait(#, 2, 0)", 0, 2);
        Edge.within(Made::rich, "bait(1, #, 0)", 1, 30);
        Edge.within(Made::rich, "bait(1, 2, #)", 0, 1);
        Edge.refused(Made::bare, Run.BAD, "bait(0, 1, 0)", "bait(0, 31, 0)");
        // Where there is no bait, too.
        Edge.refused(() -> Run.told("v0,1;h9,0,0;g9,0;"), Run.BAD, "bait(1, 1, 0)", "bait(0, 0, 0)", "bait(0, 1, 2)");
    }

    private static void heights0To9() {
        for (int reach = 0; reach <= 8; reach++) {
            Run.told("v0,1;h9,5,0;g9," + reach + ";").due("safeHeight(0, 1)", reach + 1);
        }
        Run.told("v0,1;h9,5,0;g9,9;").due("safeHeight(0, 1)", Run.NONE);
        Run.told("v0,1;h9,5,0;g0,9;").due("safeHeight(0, 60)", 0);
        // Where it hangs does not matter.
        Run.told("v0,1;h9,9,0;g9,3;").due("safeHeight(0, 1)", 4);
    }

    private static void safeHeightFor1To60() {
        Made.bittenBehind(59, 20).due("safeHeight(0, 1)", 0).due("safeHeight(0, 59)", 0).due("safeHeight(0, 60)", 1);
        Made.bittenBehind(60, 20).due("safeHeight(0, 60)", 0);
        Made.bittenBehind(0, 20).due("safeHeight(0, 1)", 1);
        // Another one is bitten ahead of it, for three hours.
        Run.told("v0,1;h3,0,5;h9,0,0;g9,4;").due("safeHeight(1, 3)", 0).due("safeHeight(1, 4)", 5);
    }

    private static void noSafeHeight() {
        Run.told("v0,1;h1,0,0;g1,9;").due("safeHeight(0, 60)", Run.NONE).does("hours(1)", "transcribe(0)")
            .due("safeHeight(0, 60)", 0);
        Made.bittenBehind(0, 1).due("safeHeight(0, 60)", 1);
    }

    private static void badSafeHeight() {
        Edge.within(Made::rich, "safeHeight(#, 7)", 0, 2);
        Edge.within(Made::rich, "safeHeight(1, #)", 1, 60);
        Edge.refused(Made::bare, Run.BAD, "safeHeight(0, 1)");
        // Ahead of STATE.
        Edge.refused(Made::voided, Run.BAD, "safeHeight(0, 0)", "safeHeight(0, 61)", "safeHeight(2, 1)");
    }

    private static void safeHeightOfVoid() {
        Edge.refused(Made::voided, Run.STATE, "safeHeight(0, 1)", "safeHeight(0, 60)");
        // One that is a preamble is not void.
        Run.told("v0,1;s3,0,0;g9,0;").does("hours(1)").due("safeHeight(0, 1)", 1);
    }
}
