/** Promises 6 to 8, and what the Terms say of texts. */
final class TextEdges {
    private static final String LAW = "v0,1;";
    private static final String LEAF = "s1,0,0;";
    private static final String GOAT = "g0,0;";
    private static final String SORTS = "sahbt";
    private static final String FIGURES = "0123456789";
    /** The longest square there is: 105 bytes. */
    private static final String LONGEST = "v09,09;" + "s20,09,09;".repeat(7) + "g40,09;".repeat(4);

    private TextEdges() {
    }

    static void all() {
        Edge.of(6, "A byte (0 to 255) comes behind the tape: how many it has.", TextEdges::bytes);
        Edge.of(6, "BAD;", TextEdges::badByte);
        Edge.of(6, " FULL.", TextEdges::fullTape);
        Edge.of(6, "TEXTS: THE TAPE has at most 120 bytes, that come one by one;", TextEdges::tapeOf120);
        Edge.of(7, " TOKENS: letters a to z (each by itself),", TextEdges::letters);
        Edge.of(7, " NUMBERS (figures, 2 at most),", TextEdges::figures);
        Edge.of(7, " SIGNS , and ; nothing else.", TextEdges::nothingElse);
        Edge.of(7, "square: law leaf { leaf } goat { goat }.", TextEdges::oneLawOneLeafOneGoat);
        Edge.of(7, "law: v GROWS , SALT ; (0 to 9; 1 to 9).", TextEdges::numbersOfLaw);
        Edge.of(7, "leaf: SORT SIZE , HEIGHT , TASTE ; (SORT: s a sweet one, a a salted one, h a hairy one, "
            + "b a bitter one, t a thorny one;", TextEdges::sorts);
        Edge.of(7, " 1 to 20; 0 to 9; 0 to 9;", TextEdges::numbersOfLeaf);
        Edge.of(7, " LEAVES 0 .. 6, 7 at most).", TextEdges::sevenLeaves);
        Edge.of(7, "goat: g HUNGER , REACH ; (0 to 40; 0 to 9;", TextEdges::numbersOfGoat);
        Edge.of(7, " GOATS 0 .. 3, 4 at most).", TextEdges::fourGoats);
        Edge.of(7, "A SQUARE that is read stands in place of the one before", TextEdges::inPlaceOfTheOneBefore);
        Edge.of(7, " HOUR 0,", TextEdges::hour0);
        Edge.of(7, " all leaves are whole,", TextEdges::wholeLeaves);
        Edge.of(7, " no goat is driven off;", TextEdges::noGoatDrivenOff);
        Edge.of(7, " no ACT can be undone;", TextEdges::noActToUndo);
        Edge.of(7, " IMAGES and ROWS stay.", TextEdges::imagesAndRowsStay);
        Edge.of(7, "FAULTS, the first TOKEN that has one (its first byte),", TextEdges::firstFault);
        Edge.of(7, " of one TOKEN the least:", TextEdges::leastFault);
        Edge.of(7, " 1 it cannot stand there, or is none", TextEdges::cannotStandThere);
        Edge.of(7, " (a run of three figures or more, at its first;", TextEdges::threeFigures);
        Edge.of(7, " the end: how many bytes there are);", TextEdges::endOfText);
        Edge.of(7, " 2 a NUMBER that is not as told;", TextEdges::numberNotAsTold);
        Edge.of(7, " 3 a leaf, a goat more than there is room for (its letter).", TextEdges::noRoom);
        Edge.of(7, "The tape, empty then, is read:", TextEdges::tapeIsEmptyThen);
        Edge.of(7, " how many LEAVES there are.", TextEdges::howManyLeaves);
        Edge.of(7, "-1000100 less the place of a FAULT:", TextEdges::placesOfFaults);
        Edge.of(7, " all but the tape, and what fault() tells, stays.", TextEdges::allStaysByAFault);
        Edge.of(8, "The number of the latest FAULT;", TextEdges::latestFault);
        Edge.of(8, " 0 before one.", TextEdges::noFaultYet);
    }

    private static void bytes() {
        new Run().due("count(7)", 0).due("feed(0)", 1).due("feed(255)", 2).due("feed(118)", 3).due("count(7)", 3);
        // The bytes come in their order, and a 0 or a 255 is a byte as any.
        dueFault("\u0000" + LAW, 0, 1);
        dueFault("\u00ff", 0, 1);
        dueFault("v0\u0000", 2, 1);
        dueFault("v0\u00ff", 2, 1);
    }

    private static void badByte() {
        Edge.within(Made::rich, "feed(#)", 0, 255);
        Edge.refused(() -> new Run().feed("v".repeat(120)), Run.BAD, "feed(-1)", "feed(256)");
    }

    private static void fullTape() {
        Edge.refused(() -> new Run().feed("v".repeat(120)), Run.FULL, "feed(118)", "feed(0)", "feed(255)");
        Run full = new Run().feed("v".repeat(120)).all(Run.FULL, "feed(48)", "feed(48)").due("count(7)", 120);
        full.due("square()", -1000101).due("feed(118)", 1);
    }

    private static void tapeOf120() {
        Run run = new Run();
        for (int i = 1; i <= 120; i++) {
            run.due("feed(" + (i == 1 ? 118 : 48) + ")", i);
        }
        run.due("feed(48)", Run.FULL).due("square()", -1000101).due("fault()", 1).due("count(7)", 0);
        // Again, as full as before.
        for (int i = 1; i <= 120; i++) {
            run.due("feed(120)", i);
        }
        run.due("feed(120)", Run.FULL).due("square()", -1000100);
        Check.due("bytes of the longest square", LONGEST.length(), 105);
        Check.due("square() of the longest", new Run().read(LONGEST), 7);
        dueFault(LONGEST + " ".repeat(15), 105, 1);
        dueFault(LONGEST + "g".repeat(15), 105, 3);
    }

    private static void letters() {
        dueBytes("", "v");
        dueBytes(LAW, SORTS);
        dueBytes(LAW + LEAF, SORTS + "g");
        dueBytes(LAW + LEAF + GOAT, "g");
        // Each by itself: two of them are two tokens, and what is near a to z is no letter.
        dueFault("vv0,1;", 1, 1);
        dueFault(LAW + "ss1,0,0;", 6, 1);
        dueFault("V0,1;", 0, 1);
        dueFault(LAW + "S1,0,0;", 5, 1);
        dueFault(LAW + "`", 5, 1);
        dueFault(LAW + "{", 5, 1);
    }

    private static void figures() {
        dueBytes("v", FIGURES);
        dueBytes("v0", "," + FIGURES);
        dueBytes("v0,1;s", "123456789");
        dueBytes("v0,1;s1", "," + FIGURES);
        dueBytes("v0,1;s1,", FIGURES);
        dueBytes("v0,1;s1,0,", FIGURES);
        dueBytes(LAW + LEAF + "g", FIGURES);
        Run two = Run.told("v00,01;s01,00,00;g00,00;").due("leaf(0, 0)", 1).due("goat(0, 0)", 0);
        two.due("hours(1)", 0);
        Run.told("v09,09;s20,09,09;g40,09;").due("leaf(0, 0)", 20).due("leaf(0, 1)", 9).due("leaf(0, 2)", 9)
            .due("goat(0, 0)", 40).due("goat(0, 1)", 9);
        dueFault("v/", 1, 1);
        dueFault("v:", 1, 1);
    }

    private static void nothingElse() {
        dueBytes("v0,1", ";");
        dueBytes(LAW + "s1,0,0", ";");
        dueBytes(LAW + LEAF + "g0", "," + FIGURES);
        for (int letter = 0; letter <= 255; letter++) {
            if (letter != ';' && FIGURES.indexOf(letter) < 0) {
                dueFault(LAW + LEAF + "g0,0" + (char) letter, 16, 1);
            }
        }
        dueFault("v0;1;", 2, 1);
        dueFault("v0,1,", 4, 1);
        dueFault("v0 ,1;", 2, 1);
        dueFault("v0.1;", 2, 1);
        dueFault("v0,1:", 4, 1);
        dueFault("v-1,1;", 1, 1);
        dueFault("v+1,1;", 1, 1);
        dueFault(LAW + "\n" + LEAF + GOAT, 5, 1);
        dueFault(LAW + LEAF + GOAT + " ", 17, 1);
        dueFault(LAW + LEAF + GOAT + "\u00e9", 17, 1);
    }

    private static void oneLawOneLeafOneGoat() {
        Check.due("square() of one of each", new Run().read(LAW + LEAF + GOAT), 1);
        dueFault(LEAF + GOAT, 0, 1);
        dueFault(LAW + GOAT, 5, 1);
        dueFault(LAW + LEAF, 12, 1);
        dueFault(LAW + LAW + LEAF + GOAT, 5, 1);
        dueFault(LAW + LEAF + LAW, 12, 1);
        dueFault(LAW + LEAF + GOAT + LEAF, 17, 1);
        dueFault(LAW + LEAF + GOAT + LAW, 17, 1);
        dueFault("", 0, 1);
    }

    private static void numbersOfLaw() {
        // By GROWS a goat is hungrier behind an hour, by SALT a salted one is liked.
        for (int number = 0; number <= 9; number++) {
            Run.told("v" + number + ",1;" + LEAF + GOAT).does("hours(1)").due("goat(0, 0)", number);
        }
        for (int number = 1; number <= 9; number++) {
            Run.told("v0," + number + ";a1,0,0;" + GOAT).due("leaf(0, 4)", number);
        }
        dueFault("v10,1;", 1, 2);
        dueFault("v99,1;", 1, 2);
        dueFault("v0,0;", 3, 2);
        dueFault("v0,00;", 3, 2);
        dueFault("v0,10;", 3, 2);
        dueFault("v0,99;", 3, 2);
    }

    private static void sorts() {
        for (int kind = 1; kind <= 5; kind++) {
            Run.told(LAW + SORTS.charAt(kind - 1) + "1,0,0;" + GOAT).due("kind(0)", kind);
        }
        Run.told(LAW + "t1,0,0;b2,1,0;h3,2,0;a4,3,0;s5,4,0;" + GOAT).due("kind(0)", 5).due("kind(1)", 4)
            .due("kind(2)", 3).due("kind(3)", 2).due("kind(4)", 1).due("leaf(0, 0)", 1).due("leaf(4, 0)", 5)
            .due("leaf(0, 1)", 0).due("leaf(4, 1)", 4);
    }

    private static void numbersOfLeaf() {
        for (int size = 1; size <= 20; size++) {
            Run.told(LAW + "h" + size + ",0,0;" + GOAT).due("leaf(0, 0)", size).due("leaf(0, 3)", size);
        }
        for (int number = 0; number <= 9; number++) {
            Run.told(LAW + "h1," + number + ",0;" + GOAT).due("leaf(0, 1)", number).due("leaf(0, 2)", 0);
            Run.told(LAW + "h1,0," + number + ";" + GOAT).due("leaf(0, 2)", number).due("leaf(0, 1)", 0);
        }
        dueFault(LAW + "h0,0,0;", 6, 2);
        dueFault(LAW + "h00,0,0;", 6, 2);
        dueFault(LAW + "h21,0,0;", 6, 2);
        dueFault(LAW + "h99,0,0;", 6, 2);
        dueFault(LAW + "h20,10,0;", 9, 2);
        dueFault(LAW + "h20,99,0;", 9, 2);
        dueFault(LAW + "h20,9,10;", 11, 2);
        dueFault(LAW + "h20,9,99;", 11, 2);
    }

    private static void sevenLeaves() {
        for (int leaves = 1; leaves <= 7; leaves++) {
            Run run = new Run();
            Check.due("square() of " + leaves, run.read(LAW + LEAF.repeat(leaves) + GOAT), leaves);
            run.due("count(1)", leaves).due("leaf(" + (leaves - 1) + ", 0)", 1).due("leaf(" + leaves + ", 0)", Run.BAD);
        }
        dueFault(LAW + LEAF.repeat(8) + GOAT, 54, 3);
    }

    private static void numbersOfGoat() {
        for (int hunger = 0; hunger <= 40; hunger++) {
            Run.told(LAW + LEAF + "g" + hunger + ",0;").due("goat(0, 0)", hunger).due("goat(0, 1)", 0);
        }
        for (int reach = 0; reach <= 9; reach++) {
            Run.told(LAW + LEAF + "g0," + reach + ";").due("goat(0, 1)", reach).due("goat(0, 0)", 0);
        }
        dueFault(LAW + LEAF + "g41,0;", 13, 2);
        dueFault(LAW + LEAF + "g99,0;", 13, 2);
        dueFault(LAW + LEAF + "g40,10;", 16, 2);
        dueFault(LAW + LEAF + "g40,99;", 16, 2);
    }

    private static void fourGoats() {
        for (int goats = 1; goats <= 4; goats++) {
            Run.told(LAW + LEAF + "g7,0;".repeat(goats)).due("count(2)", goats)
                .due("goat(" + (goats - 1) + ", 0)", 7).due("goat(" + goats + ", 0)", Run.BAD);
        }
        dueFault(LAW + LEAF + GOAT.repeat(5), 32, 3);
    }

    private static void inPlaceOfTheOneBefore() {
        Run run = Run.told("v9,9;" + "a9,0,9;".repeat(7) + "g9,9;".repeat(4)).does("hours(1)");
        Check.due("square() of less", run.read("v1,2;h3,4,5;b2,1,0;g6,7;"), 2);
        run.due("count(1)", 2).due("count(2)", 1).due("kind(0)", 3).due("kind(1)", 4).due("leaf(2, 0)", Run.BAD)
            .due("goat(1, 0)", Run.BAD).due("goat(0, 0)", 6).due("goat(0, 1)", 7);
        // What was there before is in no sum, no set, no pair, and bites nothing.
        run.due("count(4)", 3).due("count(5)", 5).due("force(0)", 3).due("gap(4)", Run.BAD).due("rivals(0)", 0)
            .due("wind(2, 0, 1)", 1).due("wind(3, 0, 0)", 0).due("drawn(0, 1, 0)", 5).due("hours(1)", 1)
            .due("goat(0, 0)", 6);
        Check.due("square() of more", run.read("v0,1;h9,0,0;h8,0,0;h7,0,0;g5,0;g4,0;g0,3;"), 3);
        run.due("count(1)", 3).due("count(2)", 3).due("count(5)", 24).due("goat(2, 1)", 3).due("leaf(2, 0)", 7);
    }

    private static void hour0() {
        Run run = Made.at(999).due("count(3)", 999);
        Check.due("square() in hour 999", run.read(LAW + "t9,0,9;" + GOAT), 1);
        run.due("count(3)", 0).due("leaf(0, 4)", 6).due("hours(1)", 0).due("count(3)", 1).due("leaf(0, 4)", Run.NONE);
        // Also behind what was foretold for later hours.
        Run foretold = Made.at(24).does("ahead(0, 60)");
        foretold.read(LAW + "t9,0,9;" + GOAT);
        foretold.due("count(3)", 0).due("ahead(0, 60)", 9).due("count(3)", 0);
    }

    private static void wholeLeaves() {
        Run run = Run.told("v9,1;s9,0,0;s2,0,9;g9,0;").does("hours(3)").due("leaf(1, 3)", 0);
        run.read(LAW + "s8,0,0;h20,0,0;" + GOAT);
        run.due("leaf(0, 3)", 8).due("leaf(1, 3)", 20).due("count(5)", 28).due("count(4)", 3);
    }

    private static void noGoatDrivenOff() {
        Run run = Run.told(LAW + LEAF + GOAT + GOAT).does("drive(0, 60)", "drive(1, 1)");
        run.read(LAW + "h9,0,0;g1,0;g1,0;");
        run.due("goat(0, 2)", 0).due("goat(1, 2)", 0).due("hours(1)", 2);
        // Also behind what was foretold of goats driven off.
        run.does("drive(1, 60)", "force(1)", "drives(1, 30, 0)");
        run.read(LAW + "h9,0,0;g1,0;g1,0;");
        run.due("goat(0, 2)", 0).due("goat(1, 2)", 0).due("hours(1)", 2);
    }

    private static void noActToUndo() {
        Run run = Run.told(LAW + LEAF + GOAT).does("hours(24)").due("count(6)", 24);
        run.read(LAW + LEAF + GOAT);
        run.due("count(6)", 0).due("undo()", Run.STATE).does("hang(0, 3)").due("count(6)", 1).due("undo()", 0)
            .due("undo()", Run.STATE).due("count(3)", 0);
    }

    private static void imagesAndRowsStay() {
        Run run = Run.told(LAW + "h9,4,5;" + GOAT).does("hours(2)", "image(0)", "hours(1)", "image(1)");
        run.row(0, 2, 70000, 3).row(7, 0);
        run.read(LAW + LEAF + LEAF + GOAT);
        run.due("count(0)", 2).due("drop(7)", 0).due("set(0, 1, 3)", 3).due("set(0, 2, 3)", Run.PLACE);
        run.due("restore(0)", 1).due("count(1)", 1).due("count(3)", 2).due("leaf(0, 1)", 4);
        run.read(LAW + LEAF + LEAF + GOAT);
        run.due("restore(1)", 1).due("count(1)", 1).due("count(3)", 3).due("drop(0)", 2);
    }

    private static void firstFault() {
        dueFault("v10,10;s0,0,0;", 1, 2);
        dueFault("v0,10;q", 3, 2);
        dueFault("q10", 0, 1);
        dueFault(LAW + "s21,10,10;x", 6, 2);
        dueFault(LAW + "s20,10,10;x", 9, 2);
        dueFault(LAW + "s20,x", 9, 1);
        dueFault(LAW + LEAF.repeat(7) + "s99,99,99;", 54, 3);
        dueFault(LAW + LEAF.repeat(6) + "s99,9,9;" + LEAF, 48, 2);
    }

    private static void leastFault() {
        // No number as told and none at all; no room and no place for it.
        dueFault("v100,1;", 1, 1);
        dueFault(LAW + "s210,0,0;", 6, 1);
        dueFault(LAW + LEAF.repeat(7) + GOAT + LEAF, 59, 1);
        dueFault(LAW + LEAF + GOAT.repeat(4) + LEAF, 32, 1);
        dueFault(LAW + LEAF.repeat(7) + "x", 54, 1);
        dueFault(LAW + LEAF.repeat(7) + "99", 54, 1);
    }

    private static void cannotStandThere() {
        dueFault("0", 0, 1);
        dueFault(",", 0, 1);
        dueFault("v,", 1, 1);
        dueFault("vv", 1, 1);
        dueFault("v0v", 2, 1);
        dueFault("v0,,", 3, 1);
        dueFault("v0,1;;", 5, 1);
        dueFault("v0,1;1", 5, 1);
        dueFault(LAW + "s1,0;", 9, 1);
        dueFault(LAW + "s1,0,0,", 11, 1);
        dueFault(LAW + LEAF + "g0;", 14, 1);
        dueFault(LAW + LEAF + "g0,0,", 16, 1);
        dueFault(LAW + LEAF + GOAT + ";", 17, 1);
        dueFault(LAW + LEAF + GOAT + "0", 17, 1);
    }

    private static void threeFigures() {
        dueFault("v000,1;", 1, 1);
        dueFault("v001,1;", 1, 1);
        dueFault("v0,001;", 3, 1);
        dueFault("v0,0001;", 3, 1);
        dueFault(LAW + "s020,0,0;", 6, 1);
        dueFault(LAW + "s1,000,0;", 8, 1);
        dueFault(LAW + "s1,0,009;", 10, 1);
        dueFault(LAW + LEAF + "g040,0;", 13, 1);
        dueFault(LAW + LEAF + "g40,009;", 16, 1);
        dueFault("v" + "0".repeat(119), 1, 1);
        dueFault("v" + "9".repeat(119), 1, 1);
        dueFault("v4294967296,1;", 1, 1);
        dueFault("123", 0, 1);
        dueFault(LAW + "123", 5, 1);
        dueFault(LAW + LEAF + GOAT + "123", 17, 1);
        dueFault("v0,1" + "000", 3, 1);
    }

    private static void endOfText() {
        String text = "v9,9;s20,9,9;g40,9;g1,1;";
        for (int bytes = 0; bytes <= text.length(); bytes++) {
            if (bytes == 19 || bytes == 24) {
                Check.due("square() of " + bytes + " bytes", new Run().read(text.substring(0, bytes)), 1);
            } else {
                dueFault(text.substring(0, bytes), bytes, 1);
            }
        }
        dueFault(LONGEST.substring(0, 104), 104, 1);
    }

    private static void numberNotAsTold() {
        for (int number = 0; number <= 99; number++) {
            dueNumber("v", number, ",1;" + LEAF + GOAT, 0, 9);
            dueNumber("v0,", number, ";" + LEAF + GOAT, 1, 9);
            dueNumber(LAW + "s", number, ",0,0;" + GOAT, 1, 20);
            dueNumber(LAW + "s1,", number, ",0;" + GOAT, 0, 9);
            dueNumber(LAW + "s1,0,", number, ";" + GOAT, 0, 9);
            dueNumber(LAW + LEAF + "g", number, ",0;", 0, 40);
            dueNumber(LAW + LEAF + "g0,", number, ";", 0, 9);
        }
    }

    private static void noRoom() {
        String full = LAW + LEAF.repeat(7);
        for (int i = 0; i < SORTS.length(); i++) {
            dueFault(full + SORTS.charAt(i), 54, 3);
        }
        dueFault(full + LEAF, 54, 3);
        dueFault(full + GOAT.repeat(4) + "g", 74, 3);
        dueFault(full + GOAT.repeat(4) + GOAT, 74, 3);
        dueFault(LAW + LEAF + GOAT.repeat(4) + "g", 32, 3);
        Check.due("square() of as many as there is room for", new Run().read(full + GOAT.repeat(4)), 7);
    }

    private static void tapeIsEmptyThen() {
        Run run = new Run().feed(LAW + LEAF + GOAT).due("count(7)", 17).due("square()", 1).due("count(7)", 0);
        run.due("square()", -1000100).due("fault()", 1).feed("v0").due("square()", -1000102).due("count(7)", 0);
        run.due("feed(118)", 1);
    }

    private static void howManyLeaves() {
        Check.due("square() of one", new Run().read(LAW + LEAF + GOAT), 1);
        Check.due("square() of seven", new Run().read(LAW + LEAF.repeat(7) + GOAT.repeat(4)), 7);
    }

    private static void placesOfFaults() {
        new Run().due("square()", -1000100);
        dueFault("v", 1, 1);
        // The longest square fills 105 bytes, so no place is farther off.
        dueFault(LONGEST + "g", 105, 3);
    }

    private static void allStaysByAFault() {
        // Both have met fault 2, one of them behind a law, leaves and goats, the other at once.
        Run late = Made.rich().does("square()");
        Run soon = Made.rich().does("square()");
        Check.due("a late fault", late.read("v7,7;s1,1,1;s2,2,2;s3,3,3;s5,5,5;g1,1;g2,2;g3,3;g41,0;"), -1000149);
        Check.due("an early fault", soon.read("v10"), -1000101);
        late.due("status()", 3);
        Edge.alike("square() of a fault", late, soon);
        Run bare = Made.empty();
        Check.due("a fault without a square", bare.read(LAW + LEAF + "g99,9;"), -1000113);
        bare.all(0, "count(1)", "count(2)", "count(4)", "count(5)").due("hours(1)", Run.STATE).due("image(0)", Run.STATE);
    }

    private static void latestFault() {
        Run run = Run.told(LAW + LEAF + GOAT);
        run.read(LAW + LEAF.repeat(8));
        run.due("fault()", 3);
        run.read("v10");
        run.due("fault()", 2).due("fault()", 2);
        run.does("square()").due("fault()", 1);
        run.read("v10");
        run.read(LAW + LEAF + GOAT);
        run.due("fault()", 2).does("feed(256)", "hours(0)", "undo()").due("fault()", 2);
    }

    private static void noFaultYet() {
        Run run = new Run().due("fault()", 0).does("feed(256)", "hours(1)").due("fault()", 0);
        run.read(LAW + LEAF + GOAT);
        run.due("fault()", 0);
    }

    private static void dueFault(String text, int place, int number) {
        Run run = new Run();
        Check.due("square() of " + text, run.read(text), -1000100 - place);
        run.due("fault()", number).due("count(1)", 0).due("count(7)", 0);
    }

    /** Each byte behind a text: by one that may follow the fault is the end, else it is that byte. */
    private static void dueBytes(String text, String mayFollow) {
        boolean numberHere = !text.isEmpty() && !text.endsWith(";");
        for (int letter = 0; letter <= 255; letter++) {
            boolean may = mayFollow.indexOf(letter) >= 0;
            // Figures that make a number which is not as told are another sentence's.
            if (may || !numberHere || FIGURES.indexOf(letter) < 0) {
                dueFault(text + (char) letter, may ? text.length() + 1 : text.length(), 1);
            }
        }
    }

    private static void dueNumber(String before, int number, String behind, int least, int most) {
        if (number >= least && number <= most) {
            Check.due("square() of " + before + number + behind, new Run().read(before + number + behind), 1);
        } else {
            dueFault(before + number + behind, before.length(), 2);
        }
    }
}
