/** Promises 36 to 41, and what the Terms say of kinds, asks and refusals. */
final class AskEdges {
    /** Of each kind one of 20, and of two kinds one of 1 at the end. */
    private static final String KINDS = "v0,1;s20,9,0;a20,9,0;h20,9,0;b20,9,0;t20,9,0;t1,9,0;a1,9,0;g0,0;";
    private static final int LEAVES = 7;

    private AskEdges() {
    }

    static void all() {
        kinds();
        asks();
        bodies();
        counts();
        findings();
    }

    private static void kinds() {
        Edge.of(36, "The KIND of a LEAF, as told (1 to 5).", AskEdges::kinds1To5);
        Edge.of(36, "BAD.", AskEdges::badKind);
        Edge.of(37, "A LEAF is taken as one of a KIND (0 .. 5): the LEAF's number.", AskEdges::takenAs0To5);
        Edge.of(37, "KINDS of LEAVES: 0 LEAF; 1 SWEET, a LEAF; 2 SALTED, a SWEET; 3 HAIRY, a SWEET; 4 BITTER, a LEAF; "
            + "5 THORNY, a BITTER.", AskEdges::kindsOfKinds);
        Edge.of(37, "BAD;", AskEdges::badAs);
        Edge.of(37, " KIND: it is no such one.", AskEdges::noSuchKind);
        Edge.of(37, " 3 KIND (a LEAF that is not that),", AskEdges::kindIsFinding3);
    }

    private static void asks() {
        Edge.of(38, "By this it is asked.", AskEdges::askedByKind);
        Edge.of(38, "An ASK (0, 1) of a LEAF.", AskEdges::asks0And1);
        Edge.of(38, "BAD.", AskEdges::badAsk);
        Edge.of(38, "THE TRACE is empty ahead of it", AskEdges::traceIsEmptyAhead);
        Edge.of(38, " (where that is refused it stays).", AskEdges::traceStaysByRefusal);
        Edge.of(39, "ASKS of LEAVES, by BODIES, each of which leaves its number in THE TRACE as it begins (the first 16):",
            AskEdges::longestTrace);
        Edge.of(39, "Number i of THE TRACE;", AskEdges::numbersOfTrace);
        Edge.of(39, " NONE.", AskEdges::noNumberOfTrace);
    }

    private static void bodies() {
        Edge.of(38, " 0 SIZE: 10 lent to all LEAVES: SIZE, as told.", AskEdges::body10);
        Edge.of(38, " 11 of SWEETS: what 10 gives, and MARK.", AskEdges::body11);
        Edge.of(38, " 12 of SALTED ones: 0 less what 11 gives.", AskEdges::body12);
        Edge.of(38, " 13 of BITTERS: what 10 gives, less 100.", AskEdges::body13);
        Edge.of(38, " 14 of THORNY ones: twice what 13 gives (asked once).", AskEdges::body14);
        Edge.of(38, " 1 MARK: 20 lent to all LEAVES: the number.", AskEdges::body20);
        Edge.of(38, " 21 of SWEETS: what 20 gives, and what is LEFT.", AskEdges::body21);
        Edge.of(38, " 22 of HAIRY ones: what 21 gives, less 1000.", AskEdges::body22);
        Edge.of(38, " 23 of BITTERS: what 20 gives, less SIZE (the ask).", AskEdges::body23);
        Edge.of(38, " 24 of SALTED ones: twice what 21 gives (asked once).", AskEdges::body24);
        Edge.of(38, "(Of an ask the BODY told for the KIND begins, else that of the nearest KIND that it is, too, "
            + "else the one that is lent; SIZE, MARK within others are asked of the same LEAF anew.)",
            AskEdges::nearestBody);
    }

    private static void counts() {
        Edge.of(40, "How many: 0 ROWS,", AskEdges::countsRows);
        Edge.of(40, " 1 LEAVES, 2 goats,", AskEdges::countsLeavesAndGoats);
        Edge.of(40, " 3 HOUR,", AskEdges::countsHour);
        Edge.of(40, " 4 which are IN FORCE (bits),", AskEdges::countsInForce);
        Edge.of(40, " 5 what is LEFT of all,", AskEdges::countsLeft);
        Edge.of(40, " 6 ACTS that can be undone,", AskEdges::countsActs);
        Edge.of(40, " 7 bytes on the tape.", AskEdges::countsBytes);
        Edge.of(40, "BAD.", AskEdges::badCount);
    }

    private static void findings() {
        Edge.of(41, "Of the latest call with a ROW, or as(), that was not BAD, STATE, FULL:", AskEdges::callsOfStatus);
        Edge.of(41, " the number of its FINDING;", AskEdges::numbersOfFindings);
        Edge.of(41, " 0: it had none, or there was none.", AskEdges::noFinding);
        Edge.of(41, "What is refused, or found, changes nothing but status().", AskEdges::refusedChangesNothing);
        Edge.of(41, "Refusals are answers, the first of these that fits, but as told: BAD (a number is not as told; "
            + "there is no such thing), STATE (as told), FULL (as told), then FINDINGS, of several the first in time:",
            AskEdges::firstRefusalThatFits);
        Edge.of(41, "An object is used for at most 512 calls after it has been made;", AskEdges::uses512Calls);
    }

    private static void kinds1To5() {
        Run run = Run.told(KINDS);
        int[] kinds = {1, 2, 3, 4, 5, 5, 2};
        for (int leaf = 0; leaf < LEAVES; leaf++) {
            run.due("kind(" + leaf + ")", kinds[leaf]);
        }
        // It stays what it is, void or copied anew.
        Made.voided().due("kind(0)", 3).does("transcribe(0)", "salt(0)", "hang(0, 9)").due("kind(0)", 3);
    }

    private static void badKind() {
        Edge.within(Made::rich, "kind(#)", 0, 2);
        Edge.within(() -> Run.told(KINDS), "kind(#)", 0, 6);
        Edge.refused(Made::bare, Run.BAD, "kind(0)");
    }

    private static void takenAs0To5() {
        Run run = Run.told(KINDS).due("as(0, 0)", 0).due("as(0, 1)", 0).due("as(5, 0)", 5).due("as(5, 5)", 5);
        run.due("as(6, 0)", 6).due("as(6, 2)", 6).due("status()", 0);
        // Taken so it is what it was.
        run.due("as(5, 4)", 5).due("kind(5)", 5).due("ask(5, 0)", -198);
        Run rich = Made.rich().due("as(1, 3)", 1).due("status()", 0);
        Edge.alike("as(1, 3)", rich, Made.rich());
    }

    private static void kindsOfKinds() {
        String[] is = {"01", "012", "013", "04", "045"};
        for (int leaf = 0; leaf < 5; leaf++) {
            for (int kind = 0; kind <= 5; kind++) {
                boolean so = is[leaf].indexOf('0' + kind) >= 0;
                Run.told(KINDS).due("as(" + leaf + ", " + kind + ")", so ? leaf : Run.KIND).due("status()", so ? 0 : 3);
            }
        }
    }

    private static void badAs() {
        Edge.within(Made::rich, "as(#, 0)", 0, 2);
        Edge.within(Made::rich, "as(2, #)", 0, 5);
        Edge.refused(Made::bare, Run.BAD, "as(0, 0)", "as(0, 6)");
        // Ahead of KIND: there is no such leaf that could be no such one.
        Edge.refused(Made::rich, Run.BAD, "as(3, 5)", "as(-1, 1)", "as(0, 6)", "as(0, -1)");
    }

    private static void noSuchKind() {
        Edge.refused(Made::rich, Run.KIND, "as(0, 3)", "as(0, 4)", "as(0, 5)", "as(1, 2)", "as(1, 4)", "as(1, 5)",
            "as(2, 1)", "as(2, 2)", "as(2, 3)");
        // A sweet one need be no salted, no hairy one, nor a bitter one a thorny one.
        Edge.refused(() -> Run.told("v0,1;s1,0,0;b1,0,0;g0,0;").does("drop(0)"), Run.KIND, "as(0, 2)", "as(0, 3)",
            "as(1, 5)", "as(1, 1)");
    }

    private static void kindIsFinding3() {
        Run.told(KINDS).due("as(0, 5)", -1000013).due("status()", 3);
    }

    private static void askedByKind() {
        Run.told(KINDS).due("ask(0, 0)", 40).due("ask(1, 0)", -62).due("ask(2, 0)", -958).due("ask(3, 0)", -80)
            .due("ask(4, 0)", -160).due("ask(5, 0)", -198).due("ask(6, 0)", -15)
            .due("ask(0, 1)", 20).due("ask(1, 1)", 42).due("ask(2, 1)", -978).due("ask(3, 1)", 83)
            .due("ask(4, 1)", 164).due("ask(5, 1)", 203).due("ask(6, 1)", 14);
    }

    private static void asks0And1() {
        Edge.within(() -> Run.told(KINDS).does("ask(4, 1)"), "ask(0, #)", 0, 1);
        Edge.within(() -> Run.told(KINDS).does("ask(4, 1)"), "ask(#, 1)", 0, 6);
        Run.told(KINDS).due("ask(0, 2)", Run.BAD).due("ask(0, -1)", Run.BAD);
    }

    private static void badAsk() {
        Edge.within(Made::rich, "ask(#, 0)", 0, 2);
        Edge.within(Made::rich, "ask(1, #)", 0, 1);
        Edge.refused(Made::bare, Run.BAD, "ask(0, 0)", "ask(0, 2)");
    }

    private static void traceIsEmptyAhead() {
        Run run = Run.told(KINDS).due("trace(0)", Run.NONE);
        dueTrace(run.does("ask(1, 0)"), 12, 11, 10, 24, 21, 20);
        dueTrace(run.does("ask(0, 1)"), 21, 20);
        dueTrace(run.does("ask(0, 1)"), 21, 20);
        for (int i = 0; i < 20; i++) {
            run.does("ask(1, 0)");
        }
        dueTrace(run, 12, 11, 10, 24, 21, 20);
    }

    private static void traceStaysByRefusal() {
        Edge.refused(() -> Run.told(KINDS).does("ask(4, 1)"), Run.BAD, "ask(7, 0)", "ask(-1, 0)", "ask(0, 2)",
            "ask(0, -1)", "ask(min, max)");
        Run run = Run.told(KINDS).does("ask(4, 1)", "ask(7, 0)", "ask(0, 2)");
        dueTrace(run, 23, 20, 14, 13, 10);
    }

    private static void longestTrace() {
        // Of all asks this one begins most bodies: six, far from 16.
        dueTrace(Run.told(KINDS).does("ask(6, 0)"), 12, 11, 10, 24, 21, 20);
        dueTrace(Run.told(KINDS).does("ask(3, 0)"), 13, 10);
    }

    private static void numbersOfTrace() {
        Run run = Run.told(KINDS).does("ask(1, 0)").due("trace(0)", 12).due("trace(5)", 20).due("trace(2)", 10);
        run.does("hours(1)", "ask(9, 9)", "count(0)", "kind(0)", "as(0, 5)").due("trace(0)", 12).due("trace(5)", 20);
    }

    private static void noNumberOfTrace() {
        Run run = new Run().all(Run.NONE, "trace(0)", "trace(1)", "trace(-1)", "trace(15)", "trace(16)", "trace(min)",
            "trace(max)");
        run.read(KINDS);
        run.does("ask(1, 0)").all(Run.NONE, "trace(-1)", "trace(6)", "trace(7)", "trace(15)", "trace(16)", "trace(17)",
            "trace(min)", "trace(max)");
        run.does("ask(0, 1)").all(Run.NONE, "trace(2)", "trace(3)", "trace(5)");
        // NONE is no finding: what was found before is told yet.
        run.does("as(0, 5)", "trace(-1)").due("status()", 3);
    }

    private static void body10() {
        // By a bitter one 10 gives what 13 gives, and 100.
        for (int size = 1; size <= 20; size++) {
            Run run = Run.told("v0,1;b" + size + ",9,0;g0,0;").due("ask(0, 0)", size - 100);
            dueTrace(run, 13, 10);
        }
        // As told, not what is left.
        Run.told("v0,1;b9,0,9;g9,0;").does("hours(9)").due("leaf(0, 3)", 0).due("ask(0, 0)", -91);
    }

    private static void body11() {
        Run run = Run.told(KINDS).due("ask(0, 0)", 40);
        dueTrace(run, 11, 10, 21, 20);
        // Void: the MARK within is the number alone.
        Run empty = Run.told("v0,1;h9,9,0;s1,0,0;g9,0;").does("hours(1)").due("ask(1, 0)", 2);
        dueTrace(empty, 11, 10, 21, 20);
    }

    private static void body12() {
        Run run = Run.told(KINDS).due("ask(1, 0)", -62);
        dueTrace(run, 12, 11, 10, 24, 21, 20);
        Run.told("v0,1;a1,0,0;g9,0;").due("ask(0, 0)", -3).does("hours(1)").due("ask(0, 0)", -1);
    }

    private static void body13() {
        dueTrace(Run.told("v0,1;b20,0,0;b1,0,0;g0,0;").due("ask(0, 0)", -80).due("ask(1, 0)", -99), 13, 10);
    }

    private static void body14() {
        dueTrace(Run.told(KINDS).due("ask(4, 0)", -160).due("ask(5, 0)", -198), 14, 13, 10);
    }

    private static void body20() {
        // By a sweet one that is void 21 gives what 20 gives.
        Run run = Run.told("v0,1;" + "s1,0,0;".repeat(7) + "g9,0;").does("hours(7)");
        for (int leaf = 0; leaf < LEAVES; leaf++) {
            run.due("ask(" + leaf + ", 1)", leaf);
        }
        dueTrace(run, 21, 20);
    }

    private static void body21() {
        Run run = Run.told("v0,1;h1,9,0;s20,0,0;g40,0;");
        for (int left = 20; left >= 0; left -= 2) {
            run.due("ask(1, 1)", 1 + left).does("hours(1)");
        }
        dueTrace(run, 21, 20);
        run.does("transcribe(1)").due("ask(1, 1)", 21);
    }

    private static void body22() {
        Run run = Run.told("v0,1;h1,0,0;h20,9,0;g1,0;").due("ask(0, 1)", -999).due("ask(1, 1)", -979);
        run.does("hours(1)").due("ask(0, 1)", -1000);
        dueTrace(run, 22, 21, 20);
    }

    private static void body23() {
        dueTrace(Run.told(KINDS).due("ask(3, 1)", 83), 23, 20, 13, 10);
        dueTrace(Run.told(KINDS).due("ask(4, 1)", 164), 23, 20, 14, 13, 10);
        Run.told("v0,1;b20,9,0;b1,9,0;g0,0;").due("ask(0, 1)", 80).due("ask(1, 1)", 100);
    }

    private static void body24() {
        Run run = Run.told("v0,1;a3,0,0;a20,9,0;g9,0;").due("ask(0, 1)", 6).due("ask(1, 1)", 42);
        run.does("hours(1)").due("ask(0, 1)", 2).does("hours(1)").due("ask(0, 1)", 0);
        dueTrace(run, 24, 21, 20);
    }

    private static void nearestBody() {
        // SIZE of a hairy one is that of sweets; MARK of a thorny one is that of bitters, and asks its own SIZE.
        dueTrace(Run.told(KINDS).due("ask(2, 0)", -958), 11, 10, 22, 21, 20);
        dueTrace(Run.told(KINDS).due("ask(5, 1)", 203), 23, 20, 14, 13, 10);
        // The MARK within 11 is a salted one's own.
        dueTrace(Run.told(KINDS).due("ask(6, 0)", -15), 12, 11, 10, 24, 21, 20);
    }

    private static void dueTrace(Run run, int... bodies) {
        for (int i = 0; i < bodies.length; i++) {
            run.due("trace(" + i + ")", bodies[i]);
        }
        run.due("trace(" + bodies.length + ")", Run.NONE);
    }

    private static void countsRows() {
        Run run = new Run().due("count(0)", 0);
        for (int row = 7; row >= 0; row--) {
            run.does("row(" + row + ", 0, 0)").due("count(0)", 8 - row);
        }
        run.does("row(0, 2, 40)").due("count(0)", 8).does("row(0, 0, 41)", "drop(8)").due("count(0)", 8);
        for (int row = 0; row < 8; row++) {
            run.does("drop(" + row + ")").due("count(0)", 7 - row);
        }
    }

    private static void countsLeavesAndGoats() {
        new Run().due("count(1)", 0).due("count(2)", 0);
        Run.told("v0,1;h1,0,0;g9,0;").due("count(1)", 1).due("count(2)", 1).does("hours(1)").due("count(1)", 1);
        Run.told("v0,1;" + "h1,0,0;".repeat(7) + "g0,0;".repeat(4)).due("count(1)", 7).due("count(2)", 4)
            .does("drive(3, 60)").due("count(2)", 4);
    }

    private static void countsHour() {
        Made.at(0).due("count(3)", 0);
        Made.at(999).due("count(3)", 999);
        new Run().due("count(3)", 0);
    }

    private static void countsInForce() {
        new Run().due("count(4)", 0);
        Run run = Run.told("v0,1;" + "h1,0,0;".repeat(7) + "g40,0;").due("count(4)", 127);
        run.does("hours(6)").due("count(4)", 64).does("hours(1)").due("count(4)", 0).does("transcribe(3)")
            .due("count(4)", 8);
        Made.bittenBehind(0, 3).does("hours(1)").due("count(4)", 1).does("hours(1)").due("count(4)", 0);
    }

    private static void countsLeft() {
        new Run().due("count(5)", 0);
        Run.told("v9,1;" + "s20,0,0;".repeat(7) + "g40,0;".repeat(4)).due("count(5)", 140).does("hours(1)")
            .due("count(5)", 132).does("hours(24)").due("count(5)", 0);
    }

    private static void countsActs() {
        Run run = Run.told("v0,1;h1,0,0;g0,0;").due("count(6)", 0).does("hours(1)").due("count(6)", 1);
        run.does("hours(22)").due("count(6)", 23).does("hours(1)").due("count(6)", 24).does("hours(1)").due("count(6)", 24);
        run.does("undo()").due("count(6)", 23).does("hang(0, 10)", "salt(1)", "hours(0)").due("count(6)", 23);
    }

    private static void countsBytes() {
        Run run = new Run().due("count(7)", 0).feed("v").due("count(7)", 1).feed("0".repeat(119)).due("count(7)", 120);
        run.does("feed(48)").due("count(7)", 120).does("feed(256)").due("count(7)", 120).does("square()").due("count(7)", 0);
    }

    private static void badCount() {
        Edge.within(Made::rich, "count(#)", 0, 7);
        Edge.refused(Made::bare, Run.BAD, "count(-1)", "count(8)");
    }

    /** Calls that meet no row and are not as() leave the finding that is there, whatever they answer. */
    private static void callsOfStatus() {
        String[] others = {"feed(118)", "feed(256)", "fault()", "undo()", "hours(1)", "hours(0)", "hang(0, 1)",
            "hang(0, 10)", "salt(0)", "salt(9)", "transcribe(0)", "drive(0, 1)", "drive(9, 1)", "fodder(0)",
            "leaf(0, 4)", "leaf(0, 6)", "goat(0, 3)", "goat(9, 0)", "ahead(0, 1)", "force(1)", "emptied(0)",
            "eats(0, 1)", "guilt(0, 1)", "gap(1)", "gap(-1)", "hangs(1, 1, 0)", "drives(1, 1, 0)", "harm(1, 0)",
            "bait(0, 1, 0)", "safeHeight(0, 1)", "rivals(0)", "rivals(2)", "wind(0, 0, 0)", "drawn(1, 1, 0)",
            "image(0)", "image(2)", "restore(0)", "restore(2)", "kind(0)", "kind(9)", "ask(0, 0)", "ask(0, 2)",
            "trace(0)", "trace(-1)", "count(0)", "count(8)", "status()", "square()", "undo()"};
        for (String other : others) {
            Made.rich().due("status()", 3).does(other).due("status()", 3);
            Made.bare().due("status()", 2).does(other).due("status()", 2);
        }
        // Nor do calls with a row, and as(), that are BAD.
        for (String bad : new String[] {"row(8, 0, 1)", "row(0, 3, 1)", "row(0, 0, 41)", "set(8, 0, 0)",
            "copy(8, 0, 0, 0, 1)", "copy(0, 0, -1, 0, 1)", "drop(-1)", "who(0, 0, 0, 0, 0, 0)", "who(9, 0, 0, 0, 0, 1)",
            "strayed(0, 0, 0, 13)", "strayed(0, 8, 0, 1)", "as(0, 6)", "as(9, 0)"}) {
            Made.rich().due(bad, Run.BAD).due("status()", 3);
        }
        // A square that is read, too, leaves it.
        Run run = Made.bare().does("square()");
        run.read("v0,1;h1,0,0;g0,0;");
        run.due("status()", 2);
    }

    private static void numbersOfFindings() {
        String[][] calls = {{"set(3, 0, 0)", "copy(3, 0, 0, 0, 1)", "copy(0, 0, 3, 0, 1)", "drop(3)",
            "who(0, 0, 0, 3, 0, 1)", "strayed(0, 3, 0, 1)"},
            {"set(0, 3, 0)", "copy(0, 0, 0, 1, 3)", "who(0, 0, 0, 0, 3, 1)", "strayed(0, 0, 3, 1)"}, {"as(0, 5)"},
            {"row(0, 0, -1)"}, {"copy(0, 0, 5, 0, 1)"}};
        for (int i = 0; i < calls.length; i++) {
            for (String call : calls[i]) {
                Made.rich().does("drop(0)").row(0, 0, 4, 3, 9).due("status()", 0).due(call, -1000011 - i)
                    .due("status()", i + 1).due("status()", i + 1);
            }
        }
    }

    private static void noFinding() {
        new Run().due("status()", 0).does("row(9, 9, 99)", "as(0, 0)").due("status()", 0);
        for (String call : new String[] {"row(1, 0, 0)", "set(0, 0, 0)", "copy(0, 0, 0, 0, 0)", "drop(0)",
            "who(0, 0, 0, 0, 0, 1)", "strayed(0, 0, 0, 1)", "as(0, 0)"}) {
            Check.due(call + " is answered", Made.rich().due("status()", 3).call(call) >= 0 ? 1 : 0, 1);
            Made.rich().does(call).due("status()", 0);
        }
    }

    private static void refusedChangesNothing() {
        Edge.refused(Made::rich, Run.BAD, "row(8, 0, 1)", "set(8, 0, 1)", "copy(8, 0, 0, 0, 1)", "drop(8)", "feed(256)",
            "hours(25)", "hang(0, 10)", "salt(3)", "transcribe(3)", "drive(0, 61)", "fodder(2)", "leaf(0, 6)",
            "goat(0, 4)", "ahead(0, 61)", "force(61)", "emptied(3)", "eats(0, 61)", "guilt(0, 61)", "gap(8)",
            "hangs(1, 31, 0)", "drives(1, 31, 0)", "harm(61, 0)", "bait(0, 31, 0)", "safeHeight(0, 61)",
            "who(0, 0, 0, 0, 0, 13)", "strayed(0, 0, 0, 13)", "rivals(2)", "wind(8, 0, 0)", "drawn(61, 1, 0)",
            "image(2)", "restore(2)", "kind(3)", "as(0, 6)", "ask(0, 2)", "count(8)");
        Edge.refused(Made::rich, Run.NULL, "set(3, 0, 1)", "copy(3, 0, 0, 0, 1)", "drop(3)", "who(0, 0, 0, 3, 0, 1)",
            "strayed(0, 3, 0, 1)");
        Edge.refused(Made::rich, Run.PLACE, "set(0, 3, 1)", "copy(0, 0, 0, 1, 3)", "who(0, 0, 0, 0, 3, 1)",
            "strayed(0, 0, 3, 1)");
        Edge.refused(Made::rich, Run.KIND, "as(0, 5)");
        Edge.refused(Made::rich, Run.SIZE, "row(0, 0, -1)");
        Edge.refused(Made::rich, Run.STORE, "copy(0, 0, 5, 0, 1)");
        Edge.refused(Made::bare, Run.STATE, "undo()", "hours(1)", "force(0)", "gap(0)", "hangs(0, 1, 0)",
            "drives(0, 1, 0)", "harm(1, 0)", "rivals(0)", "wind(0, 0, 0)", "drawn(0, 1, 0)", "image(0)", "restore(0)");
        Edge.refused(Made::voided, Run.STATE, "hang(0, 1)", "safeHeight(0, 1)");
    }

    private static void firstRefusalThatFits() {
        // BAD ahead of STATE, but as told (there is no square) the other way.
        Made.voided().due("hang(0, 10)", Run.BAD).due("hang(0, 9)", Run.STATE).due("safeHeight(0, 0)", Run.BAD)
            .due("safeHeight(0, 1)", Run.STATE).due("restore(2)", Run.BAD).due("restore(1)", Run.STATE);
        Made.bare().due("image(2)", Run.BAD).due("image(1)", Run.STATE).due("hours(0)", Run.STATE)
            .due("force(61)", Run.STATE).due("leaf(0, 6)", Run.BAD);
        // BAD ahead of FULL.
        Made.at(999).due("hours(25)", Run.BAD).due("hours(24)", Run.FULL);
        new Run().feed("v".repeat(120)).due("feed(256)", Run.BAD).due("feed(255)", Run.FULL);
        // BAD ahead of what is found, and that in its order.
        Made.rich().due("row(0, 3, -1)", Run.BAD).due("row(0, 2, -1)", Run.SIZE).due("set(8, -1, 0)", Run.BAD)
            .due("set(3, -1, 0)", Run.NULL).due("set(0, -1, 0)", Run.PLACE).due("copy(8, -1, 5, 0, 1)", Run.BAD)
            .due("copy(3, -1, 5, 0, 1)", Run.NULL).due("copy(0, -1, 5, 0, 1)", Run.STORE)
            .due("copy(0, -1, 0, 0, 1)", Run.PLACE).due("who(0, 3, 0, 3, -1, 1)", Run.BAD)
            .due("who(0, 0, 0, 3, -1, 1)", Run.NULL).due("who(0, 0, 0, 0, -1, 1)", Run.PLACE)
            .due("strayed(0, 3, -1, 0)", Run.BAD).due("strayed(0, 3, -1, 1)", Run.NULL)
            .due("strayed(0, 0, -1, 1)", Run.PLACE).due("as(3, 5)", Run.BAD).due("as(0, 5)", Run.KIND);
    }

    private static void uses512Calls() {
        Run run = Run.told("v0,1;h20,0,0;g0,0;");
        for (int height = 0; run.calls() < 510; height = (height + 1) % 10) {
            run.does("hang(0, " + height + ")");
        }
        run.due("count(6)", 24).due("undo()", 23);
        Check.due("calls made", run.calls(), 512);
        // The dearest ones over and over.
        Run dear = Run.told("v9,1;" + "h20,0,0;".repeat(7) + "g40,9;".repeat(4));
        while (dear.calls() < 512) {
            dear.due("hangs(127, 30, 0)", Run.NONE);
        }
    }
}
