import java.util.function.Supplier;

/** Promises 29 to 35, and what the Terms say of rows of what is left, of pairs, wind, draws and images. */
final class GuessEdges {
    /** Nothing is bitten: every kind, height and taste goes by 9 and 9. */
    private static final String IDLE = "v0,1;h9,0,0;h9,0,0;g0,0;";
    /** One goat for leaf 0, that is bitten in each hour. */
    private static final String BITTEN = "v0,1;h20,0,5;h9,9,0;g40,0;";
    /** The first X that is drawn from SEED 3 goes by 3 alone, from 5 by 5 alone, from 15 by both, from 1 by none. */
    private static final int BY_NONE = 1, BY_3 = 3, BY_5 = 5, BY_BOTH = 15;

    private GuessEdges() {
    }

    static void all() {
        guessedLeaves();
        guessedGoats();
        likedAlike();
        torn();
        drawnYears();
        images();
    }

    private static void guessedLeaves() {
        Edge.of(29, "A row tells how much of a LEAF is LEFT behind each of n HOURS (1 to 12) from now on.",
            GuessEdges::rowOf1To12);
        Edge.of(29, "KINDS (bits 1 to 5),", GuessEdges::kindsAreBits1To5);
        Edge.of(29, " HEIGHTS (0 to 9, bits),", GuessEdges::heightsAreBits0To9);
        Edge.of(29, " TASTES (0 to 19, bits)", GuessEdges::tastesAreBits0To19);
        Edge.of(29, " of one LEAF (it, or another one) by which it is so.", GuessEdges::byItselfOrAnother);
        Edge.of(29, "KINDS (which = 0), HEIGHTS (1), TASTES (2) of a LEAF, by LEFT of another one (or itself), "
            + "n ITEMS of a ROW from i on.", GuessEdges::itemsFromAPlaceOn);
        Edge.of(29, "BAD: LEAF, which, OTHER, ROW, n;", GuessEdges::badWho);
        Edge.of(29, " NULL;", GuessEdges::nullOfWho);
        Edge.of(29, " PLACE.", GuessEdges::placeOfWho);
    }

    private static void guessedGoats() {
        Edge.of(30, "STRAYED: such a row: goats (bits), one of which, driven off all the while, makes it so;",
            GuessEdges::strayedGoats);
        Edge.of(30, " 16 more, if it is so as it is.", GuessEdges::asItIs);
        Edge.of(30, "STRAYED, n ITEMS of a ROW from i on.", GuessEdges::strayedFromAPlaceOn);
        Edge.of(30, "BAD: LEAF, ROW, n;", GuessEdges::badStrayed);
        Edge.of(30, " NULL;", GuessEdges::nullOfStrayed);
        Edge.of(30, " PLACE.", GuessEdges::placeOfStrayed);
    }

    private static void likedAlike() {
        Edge.of(31, "RIVALS: pairs of LEAVES that are LIKED alike now (what is not LIKED at all aside): how many;",
            GuessEdges::pairs);
        Edge.of(31, " the first (10 times the lesser, and the greater); NONE.", GuessEdges::firstPair);
        Edge.of(31, "RIVALS: how many (what = 0), the first (1; NONE).", GuessEdges::noneTo21Pairs);
        Edge.of(31, "BAD;", GuessEdges::badRivals);
        Edge.of(31, " STATE: no SQUARE (ahead of BAD).", GuessEdges::rivalsWithoutSquare);
    }

    private static void torn() {
        Edge.of(32, "All that is divided is cut towards 0,", GuessEdges::halfIsCut);
        Edge.of(32, " but fractions, told as two numbers in lowest terms (0 is 0 by 1).", GuessEdges::lowestTerms);
        Edge.of(32, "WIND by p of 10 (0 to 10):", GuessEdges::windBy0To10);
        Edge.of(32, " each LEAF that is not VOID is torn (as half of it, cut, is LEFT)", GuessEdges::tornLeaves);
        Edge.of(32, " in p of 10 cases, apart, ahead of this HOUR:", GuessEdges::tornApartAheadOfTheHour);
        Edge.of(32, " how likely k (0 to 7), or more, are IN FORCE behind it: a fraction.", GuessEdges::likely0To7);
        Edge.of(32, "WIND: above (what = 0), below (1).", GuessEdges::widestFraction);
        Edge.of(32, "BAD;", GuessEdges::badWind);
        Edge.of(32, " STATE: no SQUARE (ahead of BAD).", GuessEdges::windWithoutSquare);
    }

    private static void drawnYears() {
        Edge.of(33, "YEARS of n HOURS (0 to 60) by a SEED (X at first):", GuessEdges::yearsOf0To60);
        Edge.of(33, " ahead of each X becomes the rest of (X times 16807) by 2147483647;", GuessEdges::drawsWrapAround);
        Edge.of(33, " if X by 3 leaves 0, the goat that is the rest of X by how many there are is driven off for 2 HOURS;",
            GuessEdges::drawnGoat);
        Edge.of(33, " if X by 5 leaves 0, the LEAF that is the rest of X by how many there are is copied:",
            GuessEdges::drawnLeaf);
        Edge.of(33, " how much is LEFT of all then; how often a LEAF became VOID in these.", GuessEdges::howOftenVoid);
        Edge.of(33, "YEARS by a SEED (1 to 999999): LEFT (what = 0), how often (1).", GuessEdges::seeds1To999999);
        Edge.of(33, "BAD;", GuessEdges::badDrawn);
        Edge.of(33, " STATE: no SQUARE (ahead of BAD).", GuessEdges::drawnWithoutSquare);
    }

    private static void images() {
        Edge.of(34, "An IMAGE (0, 1) is kept of the SQUARE: 1.", GuessEdges::twoImages);
        Edge.of(34, "BAD;", GuessEdges::badImage);
        Edge.of(34, " STATE: no SQUARE.", GuessEdges::imageWithoutSquare);
        Edge.of(35, "The SQUARE is as an IMAGE kept it", GuessEdges::asKept);
        Edge.of(35, " (no ACT can be undone then): 1.", GuessEdges::noActBehindRestore);
        Edge.of(35, "BAD;", GuessEdges::badRestore);
        Edge.of(35, " STATE: none was kept.", GuessEdges::restoreOfNone);
    }

    private static void rowOf1To12() {
        Run run = Run.told(BITTEN).row(0, 0, 19, 18, 17, 16, 15, 14, 13, 12, 11, 10, 9, 8, 7);
        for (int n = 1; n <= 12; n++) {
            run.due("who(0, 0, 0, 0, 0, " + n + ")", n == 1 ? 56 : 24).due("strayed(0, 0, 0, " + n + ")", 16);
        }
        run.due("who(0, 0, 0, 0, 0, 13)", Run.BAD).due("strayed(0, 0, 0, 13)", Run.BAD);
        // By the first and by the last of them alone it is not so.
        run.does("set(0, 11, 9)").due("who(0, 0, 0, 0, 0, 12)", 0).due("strayed(0, 0, 0, 12)", 0)
            .due("who(0, 0, 0, 0, 0, 11)", 24).due("strayed(0, 0, 0, 11)", 16);
        run.does("set(0, 11, 8)", "set(0, 0, 20)").due("who(0, 0, 0, 0, 0, 12)", 0).due("strayed(0, 0, 0, 12)", 0);
        // From now on: what was eaten before is gone, and hours are counted as they are.
        Run later = Run.told(BITTEN).does("hours(2)").row(0, 0, 17).due("who(0, 0, 0, 0, 0, 1)", 56);
        later.does("hours(1)").does("set(0, 0, 16)").due("who(0, 0, 0, 0, 0, 1)", 24);
    }

    private static void kindsAreBits1To5() {
        Run.told(IDLE).row(0, 0, 9).due("who(0, 0, 0, 0, 0, 1)", 62).due("who(0, 0, 1, 0, 0, 1)", 62)
            .does("set(0, 0, 8)").due("who(0, 0, 1, 0, 0, 1)", 0);
        // Of leaf 0 a salted one alone is liked more than leaf 1; a bitter and a thorny one are so less.
        Run run = Run.told("v0,5;h9,0,3;h9,0,5;g9,0;").row(0, 0, 9, 7).row(1, 0, 8, 9);
        run.due("who(0, 0, 0, 0, 1, 1)", 4).due("who(0, 0, 1, 0, 0, 1)", 4).due("who(0, 0, 1, 1, 0, 1)", 58);
        // Two of a bite, one of a bite, not liked.
        Run sorts = Run.told("v0,1;h9,0,2;h9,9,0;g9,0;").row(0, 0, 7, 8, 9).due("who(0, 0, 0, 0, 0, 1)", 6)
            .due("who(0, 0, 0, 0, 1, 1)", 8).due("who(0, 0, 0, 0, 2, 1)", 48);
        sorts.does("salt(0)").due("who(0, 0, 0, 0, 0, 1)", 6).due("who(0, 0, 0, 0, 1, 1)", 56)
            .due("who(0, 0, 0, 0, 2, 1)", 0);
        Run.told("v0,1;s9,0,9;g9,0;").row(0, 0, 8, 8, 7, 7, 6).due("who(0, 0, 0, 0, 0, 5)", 32)
            .row(0, 0, 8, 7, 6).due("who(0, 0, 0, 0, 0, 3)", 24).row(0, 0, 7, 5, 3).due("who(0, 0, 0, 0, 0, 3)", 6);
    }

    private static void heightsAreBits0To9() {
        Run.told(IDLE).row(0, 0, 9).due("who(0, 1, 0, 0, 0, 1)", 1023).due("who(1, 1, 0, 0, 0, 1)", 1023);
        for (int reach = 0; reach <= 9; reach++) {
            int reached = (2 << reach) - 1;
            Run.told("v0,1;h9,0,0;g9," + reach + ";").row(0, 0, 8, 9).due("who(0, 1, 0, 0, 0, 1)", reached)
                .due("who(0, 1, 0, 0, 1, 1)", 1023 - reached);
        }
    }

    private static void tastesAreBits0To19() {
        Run.told(IDLE).row(0, 0, 9).due("who(0, 2, 0, 0, 0, 1)", 1048575).due("who(1, 2, 0, 0, 0, 1)", 1048575);
        // Leaf 0 is bitten, if it is liked no less than leaf 1, which a salted one is by 18, 19, 20.
        Run most = Run.told("v0,9;h9,0,0;a9,0,9;g9,0;").row(0, 0, 8, 9).due("who(0, 2, 0, 0, 0, 1)", 786432)
            .due("who(0, 2, 0, 0, 1, 1)", 262143);
        most.does("salt(1)").due("who(0, 2, 0, 0, 0, 1)", 524288).does("salt(1)").due("who(0, 2, 0, 0, 0, 1)", 0)
            .due("who(0, 2, 0, 0, 1, 1)", 1048575);
        // Leaf 1 is spared, if it is liked no more than leaf 0, which is so by 0.
        Run.told("v0,1;h9,0,0;h9,0,0;g9,0;").row(0, 0, 8, 9).due("who(1, 2, 1, 0, 1, 1)", 1)
            .due("who(1, 2, 1, 0, 0, 1)", 1048574);
    }

    private static void byItselfOrAnother() {
        Run run = Run.told("v0,1;s4,0,3;h4,0,3;g5,0;").row(0, 0, 2, 0).due("who(0, 0, 0, 0, 0, 2)", 6)
            .due("who(1, 0, 0, 0, 0, 2)", 58).due("who(0, 1, 0, 0, 0, 2)", 1).due("who(1, 1, 0, 0, 0, 2)", 1023)
            .due("who(0, 2, 0, 0, 0, 2)", 1048568).due("who(1, 2, 0, 0, 0, 2)", 15);
        // What it is told to be, though it goes by others, too; and a void one stays so by all.
        run.due("kind(0)", 1).due("leaf(0, 1)", 0).due("leaf(0, 2)", 3);
        Made.voided().due("who(0, 0, 0, 0, 0, 1)", 62).due("who(0, 1, 0, 0, 0, 1)", 1023)
            .due("who(0, 2, 0, 0, 0, 1)", 1048575).due("who(0, 0, 0, 0, 1, 1)", 0);
    }

    private static void itemsFromAPlaceOn() {
        Run run = Run.told(BITTEN).does("row(0, 0, 40)", "set(0, 0, 19)", "set(0, 38, 19)", "set(0, 39, 18)");
        run.due("who(0, 0, 0, 0, 0, 1)", 56).due("who(0, 0, 0, 0, 38, 2)", 24).due("who(0, 0, 0, 0, 38, 1)", 56)
            .due("who(0, 0, 0, 0, 39, 1)", 6).due("who(0, 0, 0, 0, 37, 2)", 0).due("status()", 0);
        // As wide as the lane has it: a byte of 275 is 19, a short of 275 is none that is left, nor is -1.
        run.row(1, 0, 275, -1).row(2, 1, 275, 65555).row(3, 2, 65555, 19);
        run.due("who(0, 0, 0, 1, 0, 1)", 56).due("who(0, 0, 0, 1, 1, 1)", 0).due("who(0, 0, 0, 2, 0, 1)", 0)
            .due("who(0, 0, 0, 2, 1, 1)", 56).due("who(0, 0, 0, 3, 0, 1)", 0).due("who(0, 0, 0, 3, 1, 1)", 56);
        changesNoMoreThanStatus("who(0, 2, 1, 0, 0, 1)", GuessEdges::watched);
    }

    private static void badWho() {
        Edge.within(GuessEdges::watched, "who(#, 0, 0, 0, 0, 1)", 0, 2);
        Edge.within(GuessEdges::watched, "who(0, #, 0, 0, 0, 1)", 0, 2);
        Edge.within(GuessEdges::watched, "who(0, 0, #, 0, 0, 1)", 0, 2);
        Edge.within(GuessEdges::watched, "who(0, 0, 0, #, 0, 1)", 0, 7);
        Edge.within(GuessEdges::watched, "who(0, 0, 0, 7, 0, #)", 1, 12);
        // Ahead of NULL and PLACE, and without a square.
        Edge.refused(GuessEdges::watched, Run.BAD, "who(3, 0, 0, 3, 0, 1)", "who(0, 3, 0, 3, 0, 1)",
            "who(0, 0, 3, 3, 0, 1)", "who(0, 0, 0, 3, 0, 0)", "who(0, 0, 0, 3, 0, 13)", "who(0, 0, 0, 0, 3, 0)",
            "who(0, 0, 0, 0, -1, 13)");
        Edge.refused(Made::bare, Run.BAD, "who(0, 0, 0, 0, 0, 1)", "who(0, 0, 0, 5, 0, 1)");
    }

    private static void nullOfWho() {
        Edge.refused(GuessEdges::watched, Run.NULL, "who(0, 0, 0, 3, 0, 1)", "who(0, 0, 0, 3, -1, 1)",
            "who(0, 0, 0, 3, 40, 12)");
        Edge.refused(() -> watched().does("drop(0)"), Run.NULL, "who(0, 0, 0, 0, 0, 1)");
    }

    private static void placeOfWho() {
        Edge.refused(GuessEdges::watched, Run.PLACE, "who(0, 0, 0, 0, -1, 1)", "who(0, 0, 0, 0, 3, 1)",
            "who(0, 0, 0, 0, 2, 2)", "who(0, 0, 0, 0, 0, 4)", "who(0, 0, 0, 0, min, 1)", "who(0, 0, 0, 0, max, 1)",
            "who(0, 0, 0, 0, max, 12)", "who(0, 0, 0, 7, 1, 12)", "who(0, 0, 0, 6, 0, 1)");
        Check.due("the last place of a row", watched().call("who(0, 0, 0, 0, 2, 1)") >= 0 ? 1 : 0, 1);
    }

    /** Also row 7 of twelve items, and row 6 of none. */
    private static Run watched() {
        return Made.rich().row(7, 2, 4, 2, 0, 0, 0, 0, 0, 0, 0, 0, 0, 0).row(6, 0).does("as(1, 4)");
    }

    private static void changesNoMoreThanStatus(String call, Supplier<Run> made) {
        Run asked = made.get().does(call).due("status()", 0);
        Edge.alike(call, asked, made.get());
    }

    private static void strayedGoats() {
        // With four goats that bite once each one is left; with three of them two.
        Run four = Run.told("v0,1;h5,0,0;g1,0;g1,0;g1,0;g1,0;").row(0, 0, 2, 1, 5);
        four.due("strayed(0, 0, 0, 1)", 15).due("strayed(0, 0, 1, 1)", 16).due("strayed(0, 0, 2, 1)", 0);
        Run.told("v0,1;h5,0,0;g0,0;g0,0;g0,0;g1,0;").row(0, 0, 5).due("strayed(0, 0, 0, 1)", 8);
        Run.told("v0,1;h5,0,0;g1,0;g0,0;g0,0;g0,0;").row(0, 0, 5).due("strayed(0, 0, 0, 1)", 1);
        // All the while: twelve hours, whatever it was driven off for.
        Run all = Run.told("v0,1;h20,0,0;g40,0;").does("drive(0, 1)");
        all.row(0, 0, 20, 20, 20, 20, 20, 20, 20, 20, 20, 20, 20, 20);
        all.due("strayed(0, 0, 0, 1)", 17).due("strayed(0, 0, 0, 2)", 1).due("strayed(0, 0, 0, 12)", 1);
        all.does("drive(0, 60)").due("strayed(0, 0, 0, 12)", 17);
        // Two goats, both of which would have to go: none makes it so.
        Run.told("v0,1;h9,0,0;g9,0;g9,0;").row(0, 0, 7, 8, 9).due("strayed(0, 0, 0, 1)", 16).due("strayed(0, 0, 1, 1)", 3)
            .due("strayed(0, 0, 2, 1)", 0);
    }

    private static void asItIs() {
        Run.told("v0,1;h9,0,0;g0,0;g0,0;g0,0;g0,0;").row(0, 0, 9).due("strayed(0, 0, 0, 1)", 31);
        Run.told("v0,1;h9,0,0;g9,0;").row(0, 0, 8, 9, 7).due("strayed(0, 0, 0, 1)", 16).due("strayed(0, 0, 1, 1)", 1)
            .due("strayed(0, 0, 2, 1)", 0);
        Run.told("v0,1;h9,0,0;g0,0;").row(0, 0, 9).due("strayed(0, 0, 0, 1)", 17);
        Made.voided().due("strayed(0, 0, 0, 1)", 17).due("strayed(0, 0, 1, 1)", 0);
    }

    private static void strayedFromAPlaceOn() {
        Run run = Run.told(BITTEN).does("row(0, 0, 40)", "set(0, 0, 19)", "set(0, 38, 19)", "set(0, 39, 18)");
        run.due("strayed(0, 0, 38, 2)", 16).due("strayed(0, 0, 0, 1)", 16).due("strayed(0, 0, 39, 1)", 0)
            .due("strayed(0, 0, 37, 2)", 0).due("strayed(0, 0, 39, 2)", Run.PLACE);
        run.row(1, 0, 275, -1).row(2, 1, 275, 65555);
        run.due("strayed(0, 1, 0, 1)", 16).due("strayed(0, 1, 1, 1)", 0).due("strayed(0, 2, 0, 1)", 0)
            .due("strayed(0, 2, 1, 1)", 16).due("status()", 0);
        changesNoMoreThanStatus("strayed(1, 0, 0, 1)", GuessEdges::watched);
    }

    private static void badStrayed() {
        Edge.within(GuessEdges::watched, "strayed(#, 0, 0, 1)", 0, 2);
        Edge.within(GuessEdges::watched, "strayed(0, #, 0, 1)", 0, 7);
        Edge.within(GuessEdges::watched, "strayed(0, 7, 0, #)", 1, 12);
        Edge.refused(GuessEdges::watched, Run.BAD, "strayed(3, 3, 0, 1)", "strayed(0, 3, 0, 0)", "strayed(0, 3, 0, 13)",
            "strayed(0, 0, 3, 0)", "strayed(0, 0, -1, 13)");
        Edge.refused(Made::bare, Run.BAD, "strayed(0, 0, 0, 1)", "strayed(0, 5, 0, 1)");
    }

    private static void nullOfStrayed() {
        Edge.refused(GuessEdges::watched, Run.NULL, "strayed(0, 3, 0, 1)", "strayed(0, 3, -1, 1)",
            "strayed(0, 3, 40, 12)");
        Edge.refused(() -> watched().does("drop(0)"), Run.NULL, "strayed(0, 0, 0, 1)");
    }

    private static void placeOfStrayed() {
        Edge.refused(GuessEdges::watched, Run.PLACE, "strayed(0, 0, -1, 1)", "strayed(0, 0, 3, 1)",
            "strayed(0, 0, 2, 2)", "strayed(0, 0, 0, 4)", "strayed(0, 0, min, 1)", "strayed(0, 0, max, 1)",
            "strayed(0, 0, max, 12)", "strayed(0, 7, 1, 12)", "strayed(0, 6, 0, 1)");
        Check.due("the last place of a row", watched().call("strayed(0, 0, 2, 1)") >= 0 ? 1 : 0, 1);
    }

    private static void pairs() {
        // Liked by 0 are leaves 1 and 3; leaves 0 and 2 are not liked at all.
        Run.told("v0,1;b1,0,2;b1,0,3;t1,0,2;h1,0,0;g0,0;").due("rivals(0)", 1).due("rivals(1)", 13);
        Run.told("v0,1;b1,0,2;t1,0,2;b1,0,0;g0,0;").due("rivals(0)", 0).due("rivals(1)", Run.NONE);
        // Void ones aside, and thorny ones in odd hours.
        Run run = Run.told("v0,1;h1,0,9;h1,9,9;h9,9,3;t9,9,6;g1,0;").due("rivals(0)", 2).due("rivals(1)", 1);
        run.does("hours(1)").due("rivals(0)", 0).due("rivals(1)", Run.NONE);
        run.does("hours(1)").due("rivals(0)", 1).due("rivals(1)", 23);
        // Liked, not tasted alike; where they hang does not matter.
        Run.told("v0,2;a1,0,2;s1,9,4;b1,3,7;h1,1,2;g0,0;").due("rivals(0)", 3).due("rivals(1)", 1);
    }

    private static void firstPair() {
        Run.told("v0,1;h1,0,1;h1,0,2;h1,0,3;h1,0,4;h1,0,5;h1,0,6;h1,0,6;g0,0;").due("rivals(0)", 1).due("rivals(1)", 56);
        Run.told("v0,1;h1,0,9;h1,0,4;h1,0,4;h1,0,9;g0,0;").due("rivals(0)", 2).due("rivals(1)", 3);
        Run.told("v0,1;h1,0,1;h1,0,4;h1,0,4;h1,0,4;g0,0;").due("rivals(0)", 3).due("rivals(1)", 12);
        Run.told("v0,1;h1,0,1;h1,0,1;g0,0;").due("rivals(0)", 1).due("rivals(1)", 1);
    }

    private static void noneTo21Pairs() {
        Run.told("v0,1;" + "h1,0,0;".repeat(7) + "g0,0;").due("rivals(0)", 21).due("rivals(1)", 1);
        Run.told("v0,1;h1,0,0;g0,0;").due("rivals(0)", 0).due("rivals(1)", Run.NONE);
        Run.told("v0,1;h1,0,0;h1,0,1;g0,0;").due("rivals(0)", 0).due("rivals(1)", Run.NONE);
    }

    private static void badRivals() {
        Edge.within(Made::rich, "rivals(#)", 0, 1);
    }

    private static void rivalsWithoutSquare() {
        Edge.refused(Made::bare, Run.STATE, "rivals(0)", "rivals(1)", "rivals(-1)", "rivals(2)");
    }

    private static void halfIsCut() {
        // Half of 5 is 2, a preamble; of 3 it is 1, a preamble; of 1 nothing; of 4 it is 2, in force.
        dueWind(Run.told("v0,1;h5,0,0;g0,0;"), 1, 10, 0, 1);
        dueWind(Run.told("v0,1;h3,0,0;g0,0;"), 1, 10, 0, 1);
        dueWind(Run.told("v0,1;h1,0,0;g0,0;"), 1, 10, 0, 1);
        dueWind(Run.told("v0,1;h4,0,0;g0,0;"), 1, 10, 1, 1);
        dueWind(Run.told("v0,1;h19,0,0;g0,0;"), 1, 10, 0, 1);
        dueWind(Run.told("v0,1;h20,0,0;g0,0;"), 1, 10, 1, 1);
    }

    private static void lowestTerms() {
        Run one = Run.told("v0,1;h1,0,0;g0,0;");
        int[][] whole = {{1, 1}, {9, 10}, {4, 5}, {7, 10}, {3, 5}, {1, 2}, {2, 5}, {3, 10}, {1, 5}, {1, 10}, {0, 1}};
        for (int p = 0; p <= 10; p++) {
            dueWind(one, 1, p, whole[p][0], whole[p][1]);
        }
        Run two = Run.told("v0,1;h1,0,0;h1,0,0;g0,0;");
        dueWind(two, 2, 2, 16, 25);
        dueWind(two, 2, 4, 9, 25);
        dueWind(two, 1, 2, 24, 25);
        dueWind(two, 2, 1, 81, 100);
        dueWind(two, 2, 5, 1, 4);
        dueWind(two, 3, 5, 0, 1);
    }

    private static void windBy0To10() {
        Run run = Run.told("v0,1;h4,0,0;h3,0,0;g0,0;");
        dueWind(run, 2, 0, 1, 1);
        dueWind(run, 2, 1, 9, 10);
        dueWind(run, 2, 9, 1, 10);
        dueWind(run, 2, 10, 0, 1);
        dueWind(run, 1, 0, 1, 1);
        dueWind(run, 1, 10, 1, 1);
    }

    private static void tornLeaves() {
        // Half of what is left, not of the size: of 7 of 8 three are, a preamble; of 8 of 8 four.
        Run run = Run.told("v0,1;h8,0,0;g1,0;");
        dueWind(Run.told("v0,1;h8,0,0;g0,0;"), 1, 10, 1, 1);
        dueWind(run.does("hours(1)"), 1, 10, 0, 1);
        dueWind(run, 1, 5, 1, 2);
        // A void one is not torn, nor does it come into force.
        dueWind(Made.voided(), 2, 0, 0, 1);
        dueWind(Made.voided(), 1, 0, 1, 1);
        dueWind(Made.voided(), 1, 3, 7, 10);
        Run none = Run.told("v0,1;h1,0,0;g1,0;").does("hours(1)");
        dueWind(none, 0, 5, 1, 1);
        dueWind(none, 1, 5, 0, 1);
    }

    private static void tornApartAheadOfTheHour() {
        // Where leaf 0 is torn to nothing, the goat bites leaf 1 in this hour: both stand in no case, one in one of four.
        Run run = Run.told("v0,1;h1,0,9;h1,0,3;g1,0;");
        dueWind(run, 1, 5, 1, 4);
        dueWind(run, 2, 5, 0, 1);
        dueWind(run, 1, 0, 1, 1);
        dueWind(run, 1, 10, 0, 1);
        dueWind(run, 1, 3, 49, 100);
        // Torn, and bitten once: 2 of 4 and 1 more off.
        dueWind(Run.told("v0,1;h4,0,0;g1,0;"), 1, 10, 0, 1);
        dueWind(Run.told("v0,1;h6,0,0;g1,0;"), 1, 10, 0, 1);
        dueWind(Run.told("v0,1;h4,0,0;g1,0;"), 1, 0, 1, 1);
        // This one hour: of a thorny one in an even, not in an odd one.
        Run thorny = Run.told("v0,1;t4,0,9;g9,0;");
        dueWind(thorny, 1, 10, 0, 1);
        dueWind(thorny.does("hours(1)", "transcribe(0)"), 1, 10, 1, 1);
        dueWind(Made.at(999), 2, 0, 1, 1);
    }

    private static void likely0To7() {
        Run all = Run.told("v0,1;" + "h2,0,0;".repeat(7) + "g0,0;");
        for (int k = 0; k <= 7; k++) {
            dueWind(all, k, 10, 1, 1);
        }
        Run three = Run.told("v0,1;h1,0,0;h1,0,0;h1,0,0;g0,0;");
        int[][] eighths = {{1, 1}, {7, 8}, {1, 2}, {1, 8}, {0, 1}, {0, 1}, {0, 1}, {0, 1}};
        for (int k = 0; k <= 7; k++) {
            dueWind(three, k, 5, eighths[k][0], eighths[k][1]);
        }
    }

    private static void widestFraction() {
        Run seven = Run.told("v0,1;" + "h1,0,0;".repeat(7) + "g0,0;");
        dueWind(seven, 7, 3, 823543, 10000000);
        dueWind(seven, 1, 7, 9176457, 10000000);
        dueWind(seven, 7, 9, 1, 10000000);
        dueWind(seven, 1, 1, 9999999, 10000000);
        dueWind(seven, 7, 0, 1, 1);
        dueWind(seven, 7, 10, 0, 1);
        dueWind(seven, 4, 5, 1, 2);
    }

    private static void badWind() {
        Edge.within(Made::rich, "wind(#, 5, 0)", 0, 7);
        Edge.within(Made::rich, "wind(1, #, 0)", 0, 10);
        Edge.within(Made::rich, "wind(1, 5, #)", 0, 1);
    }

    private static void windWithoutSquare() {
        Edge.refused(Made::bare, Run.STATE, "wind(0, 0, 0)", "wind(-1, 0, 0)", "wind(8, 0, 0)", "wind(0, -1, 0)",
            "wind(0, 11, 0)", "wind(0, 0, -1)", "wind(0, 0, 2)", "wind(7, 10, 1)");
    }

    private static void dueWind(Run run, int k, int p, long above, long below) {
        run.due("wind(" + k + ", " + p + ", 0)", above).due("wind(" + k + ", " + p + ", 1)", below);
    }

    private static void yearsOf0To60() {
        // By SEED 1 the draws of hours 56 and 59 copy the leaf, those of 57 and 59 drive goat 0 off.
        Run run = Run.told("v9,1;h20,0,0;g9,0;g9,0;").due("drawn(0, 1, 0)", 20).due("drawn(1, 1, 0)", 18)
            .due("drawn(56, 1, 0)", 18).due("drawn(57, 1, 0)", 17).due("drawn(58, 1, 0)", 16)
            .due("drawn(59, 1, 0)", 19).due("drawn(60, 1, 0)", 18);
        run.does("hours(3)").due("drawn(0, 1, 0)", 14).due("drawn(0, 1, 1)", 0).due("drawn(60, 1, 0)", 18);
        Made.at(999).due("drawn(60, 1, 0)", 25);
    }

    private static void drawsWrapAround() {
        // 200011 times 16807 is above an int; its rest, 1214101230, goes by 3 and by 5.
        Run.told("v0,1;h9,0,0;g9,0;").does("hours(2)").due("drawn(1, 200011, 0)", 9).due("drawn(1, 200012, 0)", 6);
        // The fifth X of SEED 1 is 1144108930, the first that goes by 5; the seventh is 101027544, by 3.
        Run run = Run.told("v9,1;h20,0,0;g9,0;").due("drawn(4, 1, 0)", 16).due("drawn(5, 1, 0)", 19)
            .due("drawn(6, 1, 0)", 18).due("drawn(7, 1, 0)", 18).due("drawn(8, 1, 0)", 18).due("drawn(9, 1, 0)", 17);
        run.due("drawn(1, 999999, 0)", 19).due("drawn(2, 999999, 0)", 18).due("drawn(3, 999999, 0)", 18)
            .due("drawn(5, 999999, 0)", 18).due("drawn(7, 999999, 0)", 18).due("drawn(9, 999999, 0)", 18)
            .due("drawn(10, 999999, 0)", 17);
    }

    private static void drawnGoat() {
        Run run = Run.told("v0,1;h9,0,0;g9,0;").does("hours(2)");
        dueDrawn(run, BY_NONE, 6);
        dueDrawn(run, BY_3, 7);
        // Draws 1 and 2 drive it off, so it bites in hour 4 again; draw 3 copies the leaf.
        run.due("drawn(2, 3, 0)", 7).due("drawn(3, 3, 0)", 9).due("drawn(4, 3, 0)", 8);
        // For 2 hours, though it was driven off for 60.
        run.does("drive(0, 60)").due("drawn(4, 3, 0)", 8).due("drawn(4, 1, 0)", 7);
        // 50421 is odd, 100842 is even: of two goats the second, the first.
        Run.told("v0,1;h9,0,0;g9,0;g0,0;").due("drawn(1, 3, 0)", 8).due("drawn(1, 6, 0)", 9).due("drawn(2, 6, 0)", 9);
        // Of four goats 50421 leaves 1, 100842 leaves 2, 151263 leaves 3, 201684 leaves 0.
        String[] hungry = {"g9,0;g0,0;g0,0;g0,0;", "g0,0;g9,0;g0,0;g0,0;", "g0,0;g0,0;g9,0;g0,0;", "g0,0;g0,0;g0,0;g9,0;"};
        for (int goat = 0; goat < 4; goat++) {
            for (int seed = 3; seed <= 12; seed += 3) {
                Run.told("v0,1;h9,0,0;" + hungry[goat]).due("drawn(1, " + seed + ", 0)", seed / 3 % 4 == goat ? 9 : 8);
            }
        }
    }

    private static void drawnLeaf() {
        Run run = Run.told("v0,1;h9,0,0;g9,0;").does("hours(2)");
        dueDrawn(run, BY_5, 8);
        dueDrawn(run, BY_BOTH, 9);
        // A void one is whole again; 84035 is odd, 168070 even: of two leaves the second, the first.
        Run two = Run.told("v0,1;h1,0,9;h9,0,0;g3,0;").does("hours(3)", "fodder(0)").due("count(5)", 7);
        two.due("drawn(1, 5, 0)", 9).due("drawn(1, 10, 0)", 8);
        // It is copied ahead of the bites of that hour.
        Run.told("v0,1;h1,0,0;g9,0;").does("hours(1)").due("drawn(1, 5, 0)", 0).due("drawn(1, 5, 1)", 1);
        // The fifth X of SEED 1 by 1 to 7 leaves: 0, 0, 1, 2, 0, 4, 6. The leaf's size is one more.
        int[] sizes = {1, 1, 2, 3, 1, 5, 7};
        StringBuilder leaves = new StringBuilder();
        for (int many = 1; many <= 7; many++) {
            leaves.append("h").append(many).append(",0,0;");
            Run.told("v0,1;" + leaves + "g40,0;").does("hours(24)", "hours(24)", "fodder(0)").due("count(5)", 0)
                .due("drawn(4, 1, 0)", 0).due("drawn(5, 1, 0)", sizes[many - 1]);
        }
    }

    private static void dueDrawn(Run run, int seed, int left) {
        run.due("drawn(1, " + seed + ", 0)", left);
    }

    private static void howOftenVoid() {
        // By SEED 1 hours 5 and 11 copy it; from 11 to 16 the goat is driven off.
        Run run = Run.told("v9,1;h1,0,0;g9,0;");
        int[][] often = {{0, 0}, {1, 1}, {4, 1}, {5, 2}, {10, 2}, {11, 2}, {16, 2}, {17, 3}};
        for (int[] pair : often) {
            run.due("drawn(" + pair[0] + ", 1, 1)", pair[1]);
        }
        run.due("drawn(11, 1, 0)", 1).due("drawn(17, 1, 0)", 0);
        // What was void before did not become so in these.
        run.does("hours(1)").due("drawn(0, 1, 1)", 0).due("drawn(4, 1, 1)", 0).due("drawn(5, 1, 1)", 1);
        // Not as often as it is bitten, but as nothing is left.
        Run.told("v9,1;h3,0,0;s3,9,9;g9,0;g0,9;").due("drawn(1, 1, 1)", 0).due("drawn(2, 1, 1)", 0)
            .due("drawn(3, 1, 1)", 2).due("drawn(4, 1, 1)", 2);
        // Several in one hour, and of all: seven leaves of 20.
        Run.told("v0,1;h1,0,0;h1,0,0;g1,0;g1,0;").due("drawn(1, 1, 1)", 2).due("drawn(1, 1, 0)", 0);
        Run.told("v0,1;" + "h20,0,0;".repeat(7) + "g0,0;").due("drawn(60, 1, 0)", 140).due("drawn(60, 1, 1)", 0);
    }

    private static void seeds1To999999() {
        Run run = Run.told("v0,1;h9,0,0;g9,0;").due("drawn(1, 1, 0)", 8).due("drawn(1, 999999, 0)", 8)
            .due("drawn(1, 1, 1)", 0).due("drawn(3, 999999, 0)", 7).due("drawn(4, 1, 0)", 5);
        run.due("drawn(1, 0, 0)", Run.BAD).due("drawn(1, 1000000, 0)", Run.BAD);
    }

    private static void badDrawn() {
        Edge.within(Made::rich, "drawn(#, 1, 0)", 0, 60);
        Edge.within(Made::rich, "drawn(5, #, 0)", 1, 999999);
        Edge.within(Made::rich, "drawn(5, 1, #)", 0, 1);
    }

    private static void drawnWithoutSquare() {
        Edge.refused(Made::bare, Run.STATE, "drawn(0, 1, 0)", "drawn(-1, 1, 0)", "drawn(61, 1, 0)", "drawn(0, 0, 0)",
            "drawn(0, 1000000, 0)", "drawn(0, 1, -1)", "drawn(0, 1, 2)", "drawn(60, 999999, 1)");
    }

    private static void twoImages() {
        Run run = Run.told("v1,1;h9,0,0;g9,0;").does("hours(1)").due("image(0)", 1).does("hours(1)").due("image(1)", 1);
        run.does("hours(1)").due("count(6)", 3).due("count(3)", 3).due("restore(0)", 1).due("count(3)", 1)
            .due("restore(1)", 1).due("count(3)", 2).due("restore(0)", 1).due("leaf(0, 3)", 8);
        // In place of the one that was kept before; the other one stays.
        run.does("hours(7)").due("image(0)", 1).does("hours(1)").due("restore(0)", 1).due("count(3)", 8)
            .due("restore(1)", 1).due("count(3)", 2);
        // It can be undone to ahead of the image, which stays as it was.
        Run undone = Run.told("v1,1;h9,0,0;g9,0;").does("hours(2)", "image(1)").due("undo()", 1).due("count(3)", 1)
            .due("restore(1)", 1).due("count(3)", 2);
        undone.due("restore(0)", Run.STATE);
        // Nothing else becomes another by it.
        Run kept = Made.rich().does("image(0)");
        kept.due("status()", 3).due("count(6)", 4).due("count(7)", 2).due("fault()", 2).due("trace(0)", 12);
    }

    private static void badImage() {
        Edge.within(Made::rich, "image(#)", 0, 1);
        // Ahead of STATE.
        Edge.refused(Made::bare, Run.BAD, "image(-1)", "image(2)", "image(max)");
    }

    private static void imageWithoutSquare() {
        Edge.refused(Made::bare, Run.STATE, "image(0)", "image(1)");
        Edge.refused(Made::empty, Run.STATE, "image(0)", "image(1)");
    }

    private static void asKept() {
        Run run = Run.told("v2,3;a9,1,2;t9,3,4;g9,9;g5,5;").does("hours(3)", "salt(0)", "hang(1, 7)", "drive(0, 4)",
            "image(0)");
        run.does("hours(5)", "salt(0)", "hang(1, 0)", "drive(1, 60)", "fodder(0)", "transcribe(0)");
        run.read("v0,1;" + "h1,1,1;".repeat(7) + "g1,1;".repeat(4));
        run.due("restore(0)", 1).due("count(1)", 2).due("count(2)", 2).due("count(3)", 3);
        run.due("kind(0)", 2).due("kind(1)", 5).due("leaf(0, 1)", 1).due("leaf(0, 2)", 3).due("leaf(1, 1)", 7);
        // Leaf 0 is liked by SALT 3 more; hour 3 is odd. Of 9 all went in three hours: 4, 4 and 1.
        run.due("leaf(0, 3)", 0).due("leaf(1, 3)", 8).due("leaf(1, 4)", Run.NONE).due("goat(0, 2)", 4)
            .due("goat(1, 2)", 0).due("leaf(2, 0)", Run.BAD).due("goat(2, 0)", Run.BAD);
        run.due("goat(0, 0)", 10).due("goat(1, 0)", 6).does("transcribe(0)").due("leaf(0, 4)", 6);
        run.does("hours(1)").due("goat(0, 0)", 12);
        // As often as it is asked; what was done since is not in it.
        run.due("restore(0)", 1).due("leaf(0, 3)", 0).due("count(3)", 3).due("restore(0)", 1).due("count(3)", 3);
    }

    private static void noActBehindRestore() {
        Run run = Run.told("v1,1;h9,0,0;g9,0;").does("hours(2)", "image(0)", "hours(2)").due("count(6)", 4);
        run.due("restore(0)", 1).due("count(6)", 0).due("undo()", Run.STATE).due("count(3)", 2);
        run.does("hang(0, 4)").due("count(6)", 1).due("undo()", 0).due("leaf(0, 1)", 0).due("count(3)", 2)
            .due("undo()", Run.STATE);
        // All but the square is as it was.
        Made.rich().due("restore(1)", 1).due("status()", 3).due("fault()", 2).due("trace(0)", 12).due("count(0)", 3)
            .due("count(7)", 2).due("count(3)", 1).due("restore(0)", 1).due("count(3)", 0);
    }

    private static void badRestore() {
        Edge.within(Made::rich, "restore(#)", 0, 1);
        // Ahead of STATE.
        Edge.refused(Made::bare, Run.BAD, "restore(-1)", "restore(2)");
    }

    private static void restoreOfNone() {
        Edge.refused(Made::empty, Run.STATE, "restore(0)", "restore(1)");
        Edge.refused(() -> Made.voided().does("image(1)"), Run.STATE, "restore(0)");
        Edge.refused(() -> Made.voided().does("image(0)"), Run.STATE, "restore(1)");
    }
}
