/** Promises 9 to 17, and what the Terms say of hours, acts, leaves and goats. */
final class ActEdges {
    private static final String BIT = "v0,1;h9,0,0;g9,0;";

    private ActEdges() {
    }

    static void all() {
        undoAndActs();
        liking();
        biting();
        hoursPassing();
        doing();
        looking();
    }

    private static void undoAndActs() {
        Edge.of(9, "The latest ACT is undone: how many can be undone yet.", ActEdges::undoneFromTheLatest);
        Edge.of(9, "STATE: none.", ActEdges::nothingToUndo);
        Edge.of(9, "ACTS (24 at most are kept, of more the oldest is forgotten;", ActEdges::keeps24);
        Edge.of(9, " each can be undone, the latest first;", ActEdges::eachIsUndone);
        Edge.of(9, " also such by which nothing becomes another):", ActEdges::actsThatChangeNothing);
        Edge.of(10, " an HOUR;", ActEdges::eachHourIsAnAct);
    }

    private static void liking() {
        Edge.of(16, "A LEAF is LIKED: a sweet one, a hairy one by TASTE;", ActEdges::likedByTaste);
        Edge.of(16, " a salted one by that, and SALT more;", ActEdges::saltedLiked);
        Edge.of(16, " a bitter one by TASTE less 3;", ActEdges::bitterLiked);
        Edge.of(16, " a thorny one by that, in HOURS that are even (HOUR as it begins).", ActEdges::thornyLiked);
        Edge.of(16, "It is not LIKED at all, if that is less than 0,", ActEdges::notLikedBelow0);
        Edge.of(16, " or it is a thorny one in HOURS that are odd (as they begin),", ActEdges::thornyInOddHours);
        Edge.of(16, " or it is VOID.", ActEdges::voidNotLiked);
    }

    private static void biting() {
        Edge.of(10, "A bite takes of a sweet one, a salted one 2, of a hairy one 1, of a bitter one 1, of a thorny one 1",
            ActEdges::bites);
        Edge.of(10, " (what is LEFT, if that is less).", ActEdges::bitesWhatIsLeft);
        Edge.of(10, "An HOUR: each goat, by numbers,", ActEdges::goatsByNumbers);
        Edge.of(10, " that is not driven off", ActEdges::drivenOffBitesNot);
        Edge.of(10, " and whose HUNGER is above 0,", ActEdges::hungerAbove0);
        Edge.of(10, " bites the LEAF that is LIKED most", ActEdges::bitesTheMostLiked);
        Edge.of(10, " of those with HEIGHT no more than REACH,", ActEdges::heightAndReach);
        Edge.of(10, " of several the first (none, if none is LIKED);", ActEdges::theFirstOrNone);
        Edge.of(10, " HUNGER is as much less as the bite takes (0 at least).", ActEdges::hungerNotBelow0);
        Edge.of(10, "Then HUNGER of each is GROWS more (99 at most).", ActEdges::hunger99AtMost);
        Edge.of(10, "Who is driven off for n HOURS is so for one less.", ActEdges::drivenOffForOneLess);
        Edge.of(10, "HOUR is 1 more.", ActEdges::hourIsOneMore);
    }

    private static void hoursPassing() {
        Edge.of(10, "n HOURS (1 to 24), an ACT each:", ActEdges::hours1To24);
        Edge.of(10, " how much was bitten off in them.", ActEdges::bittenOffInThem);
        Edge.of(10, "BAD;", ActEdges::badHours);
        Edge.of(10, " STATE: no SQUARE (ahead of BAD);", ActEdges::hoursWithoutSquare);
        Edge.of(10, " FULL: HOUR would be above 999.", ActEdges::hoursBeyond999);
    }

    private static void doing() {
        Edge.of(11, "Hung at a HEIGHT (0 to 9): where it was.", ActEdges::hangs);
        Edge.of(11, " a LEAF that is not VOID is hung at another HEIGHT;", ActEdges::hungIsBittenByOthers);
        Edge.of(11, "BAD;", ActEdges::badHang);
        Edge.of(11, " STATE: it is VOID.", ActEdges::hangOfVoid);
        Edge.of(12, "Salted: TASTE then.", ActEdges::salts);
        Edge.of(12, " it is salted: TASTE is 1 more (19 at most);", ActEdges::salted19AtMost);
        Edge.of(12, "BAD;", ActEdges::badSalt);
        Edge.of(12, " FULL: it is 19.", ActEdges::saltAt19);
        Edge.of(13, "Copied: what was LEFT.", ActEdges::transcribes);
        Edge.of(13, " it is copied: whole again (VOID ones, too);", ActEdges::voidIsWholeAgain);
        Edge.of(13, "BAD.", ActEdges::badTranscribe);
        Edge.of(14, "Driven off for n HOURS (0 to 60): for how many it was.", ActEdges::drives);
        Edge.of(14, " a goat is driven off for n HOURS;", ActEdges::drivenOffBitesNotInThem);
        Edge.of(14, "BAD.", ActEdges::badDrive);
        Edge.of(15, "Fed: HUNGER it had.", ActEdges::feeds);
        Edge.of(15, " a goat is fed: HUNGER is 0.", ActEdges::fedIsNotHungry);
        Edge.of(15, "BAD.", ActEdges::badFodder);
    }

    private static void looking() {
        Edge.of(16, "Numbers go from 0 on.", ActEdges::numbersFrom0);
        Edge.of(16, "Of a LEAF: 0 SIZE, 1 HEIGHT, 2 TASTE, 3 what is LEFT,", ActEdges::widestAndNarrowestLeaf);
        Edge.of(16, " 4 by how much it is LIKED now (NONE: not at all),", ActEdges::likedNow);
        Edge.of(16, " 5 whether IN FORCE (2), a PREAMBLE (1), VOID (0).", ActEdges::standing);
        Edge.of(16, "A LEAF is IN FORCE, if half of its SIZE, or more, is LEFT "
            + "(twice what is LEFT is no less than SIZE); VOID, if nothing is LEFT; else it is a PREAMBLE.",
            ActEdges::standingOfAllSizes);
        Edge.of(16, "BAD.", ActEdges::badLeaf);
        Edge.of(17, "Of a goat: 0 HUNGER, 1 REACH, 2 for how many HOURS it is driven off,",
            ActEdges::widestAndNarrowestGoat);
        Edge.of(17, " 3 which LEAF it would bite now, were it first", ActEdges::wereItFirst);
        Edge.of(17, " (NONE: none; it is driven off, HUNGER is 0).", ActEdges::wouldBiteNone);
        Edge.of(17, "BAD.", ActEdges::badGoat);
    }

    private static void undoneFromTheLatest() {
        Run run = Run.told(BIT);
        for (int height = 1; height <= 9; height++) {
            run.due("hang(0, " + height + ")", height - 1);
        }
        for (int left = 8; left >= 0; left--) {
            run.due("undo()", left).due("leaf(0, 1)", left).due("count(6)", left);
        }
        run.due("undo()", Run.STATE).due("hang(0, 5)", 0).due("undo()", 0);
    }

    private static void nothingToUndo() {
        Edge.refused(Made::empty, Run.STATE, "undo()");
        Edge.refused(Made::bare, Run.STATE, "undo()");
        Edge.refused(() -> Made.rich().does("undo()", "undo()", "undo()", "undo()"), Run.STATE, "undo()");
        Edge.refused(() -> Made.rich().does("restore(1)"), Run.STATE, "undo()");
        Run read = Run.told(BIT).due("undo()", Run.STATE).does("hours(1)");
        read.read(BIT);
        read.due("undo()", Run.STATE);
    }

    private static void keeps24() {
        Run exact = heightsHung(24).due("count(6)", 24);
        for (int left = 23; left >= 0; left--) {
            exact.due("undo()", left).due("leaf(0, 1)", left % 10);
        }
        exact.due("undo()", Run.STATE).due("leaf(0, 1)", 0);
        Run oneMore = heightsHung(25).due("count(6)", 24);
        for (int left = 23; left >= 0; left--) {
            oneMore.due("undo()", left).due("leaf(0, 1)", (left + 1) % 10);
        }
        oneMore.due("undo()", Run.STATE).due("leaf(0, 1)", 1);
        // Kept again, where some were undone: of acts 17 to 40 the first four stay, and come to 25 by new ones.
        Run again = heightsHung(40);
        for (int left = 23; left >= 4; left--) {
            again.due("undo()", left);
        }
        again.due("leaf(0, 1)", 0);
        for (int taste = 1; taste <= 19; taste++) {
            again.due("salt(0)", taste).due("count(6)", 4 + taste);
        }
        again.does("drive(0, 3)").due("count(6)", 24).does("drive(0, 4)").due("count(6)", 24);
        again.due("undo()", 23).due("goat(0, 2)", 3).due("undo()", 22).due("goat(0, 2)", 0);
        for (int taste = 18; taste >= 0; taste--) {
            again.due("undo()", 3 + taste).due("leaf(0, 2)", taste);
        }
        again.due("undo()", 2).due("leaf(0, 1)", 9).due("undo()", 1).due("leaf(0, 1)", 8).due("undo()", 0)
            .due("leaf(0, 1)", 7).due("undo()", Run.STATE).due("leaf(0, 1)", 7);
        Run twice = heightsHung(48).due("count(6)", 24);
        for (int left = 23; left >= 0; left--) {
            twice.due("undo()", left).due("leaf(0, 1)", (left + 24) % 10);
        }
        twice.due("undo()", Run.STATE);
        Run hours = Run.told(BIT).does("hours(24)", "hours(1)").due("count(6)", 24);
        for (int left = 23; left >= 0; left--) {
            hours.due("undo()", left).due("count(3)", left + 1);
        }
        hours.due("undo()", Run.STATE).due("leaf(0, 3)", 8);
    }

    /** So many acts, by each of which leaf 0 comes to hang at the act's last figure. */
    private static Run heightsHung(int acts) {
        Run run = Run.told(BIT);
        for (int act = 1; act <= acts; act++) {
            run.does("hang(0, " + act % 10 + ")");
        }
        return run;
    }

    private static void eachIsUndone() {
        Run run = Run.told("v2,1;s9,0,3;h9,0,1;g9,0;g9,0;");
        run.does("drive(1, 3)", "hours(1)", "hang(1, 4)", "salt(1)", "transcribe(0)", "drive(1, 60)", "fodder(0)");
        run.due("count(6)", 7).due("undo()", 6).due("goat(0, 0)", 9);
        run.due("undo()", 5).due("goat(1, 2)", 2);
        run.due("undo()", 4).due("leaf(0, 3)", 7);
        run.due("undo()", 3).due("leaf(1, 2)", 1);
        run.due("undo()", 2).due("leaf(1, 1)", 0);
        run.due("undo()", 1).due("leaf(0, 3)", 9).due("goat(0, 0)", 9).due("goat(1, 0)", 9).due("goat(1, 2)", 3)
            .due("count(3)", 0);
        run.due("undo()", 0).due("goat(1, 2)", 0).due("undo()", Run.STATE);
        Run emptied = Run.told("v0,1;s1,0,3;g9,0;").does("hours(1)").due("leaf(0, 5)", 0).due("transcribe(0)", 0);
        emptied.due("undo()", 1).due("leaf(0, 5)", 0).due("undo()", 0).due("leaf(0, 5)", 2);
    }

    private static void actsThatChangeNothing() {
        Run run = Run.told("v0,1;h9,5,0;g0,0;");
        run.due("hang(0, 5)", 5).due("count(6)", 1).due("transcribe(0)", 9).due("count(6)", 2);
        run.due("drive(0, 0)", 0).due("count(6)", 3).due("fodder(0)", 0).due("count(6)", 4);
        run.due("hours(1)", 0).due("count(6)", 5);
        run.all(4, "undo()").all(3, "undo()").all(2, "undo()").all(1, "undo()").all(0, "undo()")
            .all(Run.STATE, "undo()");
    }

    private static void eachHourIsAnAct() {
        Run run = Run.told(BIT).due("hours(3)", 3).due("count(6)", 3);
        run.due("undo()", 2).due("count(3)", 2).due("leaf(0, 3)", 7).due("goat(0, 0)", 7);
        run.due("undo()", 1).due("count(3)", 1).due("leaf(0, 3)", 8).due("undo()", 0).due("leaf(0, 3)", 9);
        Run.told(BIT).does("hours(24)").due("count(6)", 24);
    }

    private static void likedByTaste() {
        for (int taste = 0; taste <= 9; taste++) {
            Run.told("v0,9;s1,0," + taste + ";h1,0," + taste + ";g0,0;").due("leaf(0, 4)", taste)
                .due("leaf(1, 4)", taste).does("hours(1)").due("leaf(0, 4)", taste).due("leaf(1, 4)", taste);
        }
    }

    private static void saltedLiked() {
        Run.told("v0,1;a1,0,0;a1,0,9;g0,0;").due("leaf(0, 4)", 1).due("leaf(1, 4)", 10);
        Run most = Run.told("v0,9;a1,0,0;a1,0,9;g0,0;").due("leaf(0, 4)", 9).due("leaf(1, 4)", 18);
        for (int taste = 10; taste <= 19; taste++) {
            most.due("salt(1)", taste).due("leaf(1, 4)", taste + 9);
        }
    }

    private static void bitterLiked() {
        Run run = Run.told("v0,1;b1,0,3;b1,0,9;g0,0;").due("leaf(0, 4)", 0).due("leaf(1, 4)", 6);
        run.does("hours(1)").due("leaf(0, 4)", 0).due("leaf(1, 4)", 6);
    }

    private static void thornyLiked() {
        Run run = Run.told("v0,1;t9,0,3;t9,0,9;g1,0;").due("leaf(0, 4)", 0).due("leaf(1, 4)", 6).due("goat(0, 3)", 1);
        run.due("hours(1)", 1).does("hours(1)").due("leaf(0, 4)", 0).due("leaf(1, 4)", 6);
        Made.at(998).due("leaf(1, 4)", 6);
    }

    private static void notLikedBelow0() {
        Run run = Run.told("v0,1;b9,0,2;t9,0,2;b9,0,0;t9,0,0;g9,0;");
        for (int leaf = 0; leaf < 4; leaf++) {
            run.due("leaf(" + leaf + ", 4)", Run.NONE);
        }
        run.due("goat(0, 3)", Run.NONE).due("hours(1)", 0).due("salt(0)", 3).due("leaf(0, 4)", 0).due("goat(0, 3)", 0);
        // By 0 it is liked, and bitten.
        Run.told("v0,1;b9,0,3;g9,0;").due("leaf(0, 4)", 0).due("hours(1)", 1);
        Run.told("v0,1;t9,0,3;g9,0;").due("leaf(0, 4)", 0).due("hours(1)", 1);
        Run.told("v0,1;s9,0,0;g9,0;").due("leaf(0, 4)", 0).due("hours(1)", 2);
    }

    private static void thornyInOddHours() {
        Run run = Run.told("v0,1;t9,0,9;h9,0,0;g9,0;");
        for (int hour = 0; hour < 6; hour++) {
            run.due("leaf(0, 4)", hour % 2 == 0 ? 6 : Run.NONE).due("goat(0, 3)", hour % 2).due("hours(1)", 1);
        }
        run.due("leaf(0, 3)", 6).due("leaf(1, 3)", 6);
        Made.at(999).due("leaf(1, 4)", Run.NONE);
    }

    private static void voidNotLiked() {
        Run run = Run.told("v0,1;h1,0,9;h9,0,0;g9,0;").due("leaf(0, 4)", 9).does("hours(1)").due("leaf(0, 4)", Run.NONE);
        run.due("goat(0, 3)", 1).due("hours(1)", 1).due("leaf(1, 3)", 8).due("transcribe(0)", 0).due("leaf(0, 4)", 9);
        // One that is left of it is enough.
        Run.told("v0,1;h2,0,9;h9,0,0;g9,0;").does("hours(1)").due("leaf(0, 3)", 1).due("leaf(0, 4)", 9);
    }

    private static void bites() {
        String sorts = "sahbt";
        int[] takes = {2, 2, 1, 1, 1};
        for (int i = 0; i < 5; i++) {
            Run.told("v0,1;" + sorts.charAt(i) + "20,0,9;g40,0;").due("hours(1)", takes[i])
                .due("leaf(0, 3)", 20 - takes[i]).due("goat(0, 0)", 40 - takes[i]);
        }
    }

    private static void bitesWhatIsLeft() {
        for (String sort : new String[] {"s", "a"}) {
            Run run = Run.told("v0,1;" + sort + "3,0,0;g9,0;").due("hours(1)", 2).due("goat(0, 0)", 7);
            run.due("hours(1)", 1).due("leaf(0, 3)", 0).due("goat(0, 0)", 6).due("hours(1)", 0).due("goat(0, 0)", 6);
            Run.told("v0,1;" + sort + "2,0,0;g9,0;").due("hours(1)", 2).due("leaf(0, 3)", 0).due("goat(0, 0)", 7);
        }
    }

    private static void goatsByNumbers() {
        Run run = Run.told("v0,1;h1,0,9;h9,0,0;g9,0;g9,0;").due("hours(1)", 2).due("leaf(0, 3)", 0);
        run.due("leaf(1, 3)", 8).does("undo()").due("guilt(0, 1)", 1).due("guilt(1, 1)", 2);
        // All four bite, each once.
        Run.told("v0,1;h9,0,0;g1,0;g1,0;g1,0;g1,0;").due("guilt(0, 1)", 15).due("hours(1)", 4);
        // Of a sweet one the second goat finds one left, the third none.
        Run.told("v0,1;s3,0,0;g9,0;g9,0;g9,0;").due("hours(1)", 3).due("goat(0, 0)", 7).due("goat(1, 0)", 8)
            .due("goat(2, 0)", 9);
    }

    private static void drivenOffBitesNot() {
        Run run = Run.told(BIT).does("drive(0, 1)").due("hours(1)", 0).due("goat(0, 2)", 0).due("hours(1)", 1);
        run.does("drive(0, 2)").due("hours(2)", 0).due("hours(1)", 1).does("drive(0, 0)").due("hours(1)", 1);
    }

    private static void hungerAbove0() {
        Run run = Run.told("v0,1;h9,0,0;g0,0;g1,0;").due("eats(0, 1)", 0).due("eats(1, 1)", 1).due("hours(1)", 1);
        run.due("goat(1, 0)", 0).due("hours(1)", 0);
    }

    private static void bitesTheMostLiked() {
        Run.told("v0,1;h9,0,3;h9,0,4;h9,0,2;g9,0;").due("goat(0, 3)", 1).does("hours(1)").due("leaf(1, 3)", 8);
        // By one more, as SALT has it.
        Run.told("v0,9;s9,0,9;a9,0,1;g9,0;").due("goat(0, 3)", 1);
        Run.told("v0,8;s9,0,9;a9,0,1;g9,0;").due("goat(0, 3)", 0);
        Run.told("v0,1;h9,0,6;b9,0,9;g9,0;").due("goat(0, 3)", 0);
        Run.told("v0,1;h9,0,5;b9,0,9;g9,0;").due("goat(0, 3)", 1);
    }

    private static void heightAndReach() {
        Run.told("v0,1;h9,4,0;g9,3;g9,4;g9,5;").due("goat(0, 3)", Run.NONE).due("goat(1, 3)", 0).due("goat(2, 3)", 0)
            .due("guilt(0, 1)", 6).due("hours(1)", 2);
        Run.told("v0,1;h9,9,0;g9,8;g9,9;").due("guilt(0, 1)", 2);
        Run.told("v0,1;h9,0,0;g9,0;").due("guilt(0, 1)", 1);
        Run.told("v0,1;h9,1,9;h9,0,0;g9,0;").due("goat(0, 3)", 1);
    }

    private static void theFirstOrNone() {
        Run run = Run.told("v0,1;h9,0,3;h9,0,4;s9,0,4;a9,0,3;b9,0,7;t9,0,7;g9,0;").due("goat(0, 3)", 1);
        run.due("hours(1)", 1).due("leaf(1, 3)", 8).does("hang(1, 9)").due("goat(0, 3)", 2);
        run.does("hang(2, 9)").due("goat(0, 3)", 3).does("hang(3, 9)").due("goat(0, 3)", 4);
        run.does("hours(1)", "hang(4, 9)").due("goat(0, 3)", 5).does("hang(5, 9)").due("goat(0, 3)", 0);
        run.does("hang(0, 9)").due("goat(0, 3)", Run.NONE).due("hours(1)", 0);
        Run.told("v0,1;b9,0,2;t9,0,2;g9,9;").due("hours(2)", 0).due("goat(0, 0)", 9);
    }

    private static void hungerNotBelow0() {
        Run.told("v0,1;s9,0,0;g1,0;").due("hours(1)", 2).due("goat(0, 0)", 0).due("hours(1)", 0);
        Run.told("v1,1;s9,0,0;g1,0;").due("hours(1)", 2).due("goat(0, 0)", 1);
        Run.told("v0,1;s9,0,0;g2,0;").due("hours(1)", 2).due("goat(0, 0)", 0);
        Run.told("v0,1;s9,0,0;g3,0;").due("hours(1)", 2).due("goat(0, 0)", 1);
    }

    private static void hunger99AtMost() {
        Run run = Run.told("v9,1;h1,9,0;g40,0;g36,0;g35,0;").does("hours(6)").due("goat(0, 0)", 94);
        run.does("hours(1)").due("goat(0, 0)", 99).due("goat(1, 0)", 99).due("goat(2, 0)", 98);
        run.does("hours(1)").due("goat(0, 0)", 99).due("goat(1, 0)", 99).due("goat(2, 0)", 99);
        // Of each: of those driven off, too; and first the bite, then what grows.
        Run.told("v9,1;h9,0,0;g0,0;").does("drive(0, 60)").due("hours(1)", 0).due("goat(0, 0)", 9);
        Run.told("v1,1;h9,0,0;g0,0;").due("hours(1)", 0).due("goat(0, 0)", 1).due("hours(1)", 1).due("goat(0, 0)", 1);
        Run full = Run.told("v9,1;h20,9,0;g40,9;").does("fodder(0)", "drive(0, 11)", "hours(11)").due("goat(0, 0)", 99);
        full.due("hours(1)", 1).due("goat(0, 0)", 99);
    }

    private static void drivenOffForOneLess() {
        Run run = Run.told("v0,1;h9,9,0;g0,0;g0,0;").does("drive(0, 60)", "drive(1, 1)", "hours(1)");
        run.due("goat(0, 2)", 59).due("goat(1, 2)", 0).does("hours(1)").due("goat(0, 2)", 58).due("goat(1, 2)", 0);
        run.does("hours(24)", "hours(24)", "hours(10)").due("goat(0, 2)", 0).does("hours(1)").due("goat(0, 2)", 0);
    }

    private static void hourIsOneMore() {
        Run.told(BIT).due("count(3)", 0).does("hours(1)").due("count(3)", 1).does("hours(24)").due("count(3)", 25)
            .does("undo()").due("count(3)", 24);
    }

    private static void hours1To24() {
        Run.told("v9,1;h20,0,0;g9,0;").due("hours(1)", 1).due("count(6)", 1).due("count(3)", 1);
        Run.told("v9,1;h20,0,0;g9,0;").due("hours(24)", 20).due("count(6)", 24).due("count(3)", 24);
        Run.told("v9,1;h20,0,0;g9,0;").due("hours(19)", 19).due("leaf(0, 3)", 1);
    }

    private static void bittenOffInThem() {
        Run.told("v9,1;" + "s20,0,0;".repeat(7) + "g40,0;".repeat(4)).due("hours(24)", 140).due("count(5)", 0)
            .due("hours(24)", 0);
        Run.told("v0,1;s5,0,0;g2,0;g3,0;").due("hours(1)", 4).due("hours(1)", 1).due("hours(1)", 0);
    }

    private static void badHours() {
        Edge.within(Made::rich, "hours(#)", 1, 24);
        Edge.refused(Made::rich, Run.BAD, "hours(-24)");
        // Ahead of FULL.
        Edge.refused(() -> Made.at(999), Run.BAD, "hours(0)", "hours(25)", "hours(max)");
        Edge.refused(() -> Made.at(990), Run.BAD, "hours(25)", "hours(-1)");
    }

    private static void hoursWithoutSquare() {
        Edge.refused(Made::bare, Run.STATE, "hours(1)", "hours(24)", "hours(0)", "hours(25)", "hours(min)");
    }

    private static void hoursBeyond999() {
        Edge.refused(() -> Made.at(999), Run.FULL, "hours(1)", "hours(24)");
        Edge.refused(() -> Made.at(998), Run.FULL, "hours(2)");
        Edge.refused(() -> Made.at(976), Run.FULL, "hours(24)");
        Made.at(998).due("hours(1)", 0).due("count(3)", 999).due("hours(1)", Run.FULL).due("count(3)", 999);
        Made.at(975).due("hours(24)", 0).due("count(3)", 999);
        Made.at(976).due("hours(23)", 0).due("count(3)", 999).due("undo()", 23).due("hours(1)", 0);
    }

    private static void hangs() {
        Run run = Run.told("v0,1;h9,0,0;h9,9,0;g0,0;").due("hang(0, 9)", 0).due("hang(1, 0)", 9).due("hang(0, 0)", 9);
        run.due("leaf(0, 1)", 0).due("leaf(1, 1)", 0).due("hang(0, 5)", 0).due("hang(0, 5)", 5).due("leaf(0, 1)", 5);
    }

    private static void hungIsBittenByOthers() {
        Run run = Run.told("v0,1;h9,0,0;h9,0,0;g9,0;g9,9;").does("hang(0, 1)").due("goat(0, 3)", 1).due("goat(1, 3)", 0);
        run.does("hang(0, 9)").due("goat(1, 3)", 0).due("hours(1)", 2).due("leaf(0, 3)", 8).due("leaf(1, 3)", 8);
        // One that is a preamble is not void.
        Run.told("v0,1;s3,0,0;g1,0;").does("hours(1)").due("leaf(0, 3)", 1).due("hang(0, 9)", 0);
    }

    private static void badHang() {
        Edge.within(Made::rich, "hang(#, 4)", 0, 2);
        Edge.within(Made::rich, "hang(1, #)", 0, 9);
        Edge.refused(Made::bare, Run.BAD, "hang(0, 0)");
        // Ahead of STATE.
        Edge.refused(Made::voided, Run.BAD, "hang(0, -1)", "hang(0, 10)");
    }

    private static void hangOfVoid() {
        Edge.refused(Made::voided, Run.STATE, "hang(0, 0)", "hang(0, 9)");
        Made.voided().does("transcribe(0)").due("hang(0, 9)", 0).due("leaf(0, 1)", 9);
    }

    private static void salts() {
        Run.told("v0,1;s9,0,0;s9,0,9;g0,0;").due("salt(0)", 1).due("salt(1)", 10).due("leaf(0, 2)", 1)
            .due("leaf(1, 2)", 10);
        Made.voided().due("salt(0)", 10).due("leaf(0, 4)", Run.NONE);
    }

    private static void salted19AtMost() {
        Run run = Run.told("v0,1;s9,0,9;g0,0;");
        for (int taste = 10; taste <= 19; taste++) {
            run.due("salt(0)", taste).due("leaf(0, 2)", taste).due("count(6)", taste - 9);
        }
        run.due("salt(0)", Run.FULL).due("leaf(0, 2)", 19).due("count(6)", 10).due("undo()", 9).due("salt(0)", 19);
    }

    private static void badSalt() {
        Edge.within(Made::rich, "salt(#)", 0, 2);
        Edge.refused(Made::bare, Run.BAD, "salt(0)");
        Edge.refused(ActEdges::saltedOut, Run.BAD, "salt(1)", "salt(-1)");
    }

    private static void saltAt19() {
        Edge.refused(ActEdges::saltedOut, Run.FULL, "salt(0)");
    }

    private static Run saltedOut() {
        Run run = Run.told("v0,1;s9,0,9;g0,0;");
        for (int i = 0; i < 10; i++) {
            run.does("salt(0)");
        }
        return run;
    }

    private static void transcribes() {
        Run run = Run.told("v9,1;s20,0,0;h1,9,0;g40,0;").due("transcribe(0)", 20).due("transcribe(1)", 1);
        run.does("hours(9)").due("transcribe(0)", 2).due("leaf(0, 3)", 20).due("leaf(0, 5)", 2);
    }

    private static void voidIsWholeAgain() {
        Made.voided().due("transcribe(0)", 0).due("leaf(0, 3)", 1).due("leaf(0, 5)", 2).due("goat(0, 3)", 0);
    }

    private static void badTranscribe() {
        Edge.within(Made::rich, "transcribe(#)", 0, 2);
        Edge.refused(Made::bare, Run.BAD, "transcribe(0)");
    }

    private static void drives() {
        Run run = Run.told(BIT).due("drive(0, 60)", 0).due("goat(0, 2)", 60).due("drive(0, 1)", 60);
        run.due("drive(0, 0)", 1).due("goat(0, 2)", 0).due("drive(0, 59)", 0).does("hours(1)").due("drive(0, 7)", 58);
    }

    private static void drivenOffBitesNotInThem() {
        Run run = Run.told(BIT).does("drive(0, 60)").due("hours(24)", 0).due("hours(24)", 0).due("hours(12)", 0);
        run.due("hours(1)", 1);
        Run.told(BIT).does("drive(0, 0)").due("hours(1)", 1);
    }

    private static void badDrive() {
        Edge.within(Made::rich, "drive(#, 4)", 0, 1);
        Edge.within(Made::rich, "drive(1, #)", 0, 60);
        Edge.refused(Made::bare, Run.BAD, "drive(0, 1)");
    }

    private static void feeds() {
        Run run = Run.told("v9,1;h9,9,0;g40,0;g0,0;").due("fodder(0)", 40).due("fodder(0)", 0).due("fodder(1)", 0);
        run.does("hours(12)").due("goat(0, 0)", 99).due("fodder(0)", 99).due("goat(0, 0)", 0).due("goat(1, 0)", 99);
    }

    private static void fedIsNotHungry() {
        Run.told(BIT).does("fodder(0)").due("goat(0, 0)", 0).due("goat(0, 3)", Run.NONE).due("hours(1)", 0);
    }

    private static void badFodder() {
        Edge.within(Made::rich, "fodder(#)", 0, 1);
        Edge.refused(Made::bare, Run.BAD, "fodder(0)");
    }

    private static void numbersFrom0() {
        Run.told("v0,1;h1,2,3;g4,5;").row(0, 0, 6).due("leaf(0, 0)", 1).due("leaf(0, 1)", 2).due("goat(0, 0)", 4)
            .due("goat(0, 1)", 5).due("set(0, 0, 7)", 7).due("goat(0, 3)", 0).due("as(0, 0)", 0).does("ask(0, 1)")
            .due("trace(0)", 22).due("image(0)", 1).due("count(0)", 1);
    }

    private static void widestAndNarrowestLeaf() {
        Run run = Run.told("v9,1;s20,9,9;s1,0,0;g0,0;").due("leaf(0, 0)", 20).due("leaf(0, 1)", 9)
            .due("leaf(0, 2)", 9).due("leaf(0, 3)", 20).due("leaf(1, 0)", 1).due("leaf(1, 1)", 0)
            .due("leaf(1, 2)", 0).due("leaf(1, 3)", 1);
        run.does("hours(2)").due("leaf(1, 3)", 0).due("leaf(1, 0)", 1).due("leaf(1, 1)", 0).due("leaf(1, 2)", 0);
    }

    private static void likedNow() {
        Run run = Run.told("v0,9;a9,0,9;t9,0,9;b9,0,2;s1,9,0;g1,9;").due("leaf(0, 4)", 18).due("leaf(1, 4)", 6)
            .due("leaf(2, 4)", Run.NONE).due("leaf(3, 4)", 0);
        run.does("hours(1)").due("leaf(0, 4)", 18).due("leaf(1, 4)", Run.NONE);
        Made.voided().due("leaf(0, 4)", Run.NONE);
    }

    private static void standing() {
        Run.told("v0,1;h3,0,0;g9,0;").due("leaf(0, 5)", 2).does("hours(1)").due("leaf(0, 5)", 2).does("hours(1)")
            .due("leaf(0, 5)", 1).does("hours(1)").due("leaf(0, 5)", 0);
        Run.told("v0,1;h1,0,0;g9,0;").due("leaf(0, 5)", 2).does("hours(1)").due("leaf(0, 5)", 0);
    }

    private static void standingOfAllSizes() {
        for (int size = 1; size <= 20; size++) {
            Run run = Run.told("v0,1;h" + size + ",0,0;g40,0;");
            for (int left = size; left >= 0; left--) {
                boolean inForce = left > 0 && 2 * left >= size;
                run.due("leaf(0, 3)", left).due("leaf(0, 5)", left == 0 ? 0 : inForce ? 2 : 1)
                    .due("count(4)", inForce ? 1 : 0).does("hours(1)");
            }
        }
        // Told once more without a sum: half of an even size, of an odd one the greater half.
        Made.bittenBehind(0, 20).does("hours(10)").due("leaf(0, 5)", 2).does("hours(1)").due("leaf(0, 5)", 1);
        Made.bittenBehind(0, 19).does("hours(9)").due("leaf(0, 5)", 2).does("hours(1)").due("leaf(0, 5)", 1);
        Made.bittenBehind(0, 2).does("hours(1)").due("leaf(0, 5)", 2).does("hours(1)").due("leaf(0, 5)", 0);
    }

    private static void badLeaf() {
        Edge.within(Made::rich, "leaf(#, 0)", 0, 2);
        Edge.within(Made::rich, "leaf(1, #)", 0, 5);
        Edge.refused(Made::bare, Run.BAD, "leaf(0, 0)");
        Edge.within(() -> Run.told("v0,1;" + "h1,0,0;".repeat(7) + "g0,0;").does("hours(1)", "undo()"), "leaf(#, 3)",
            0, 6);
    }

    private static void widestAndNarrowestGoat() {
        Run run = Run.told("v9,1;h9,9,0;g40,9;g0,0;").does("drive(0, 60)").due("goat(0, 0)", 40).due("goat(0, 1)", 9)
            .due("goat(0, 2)", 60).due("goat(1, 0)", 0).due("goat(1, 1)", 0).due("goat(1, 2)", 0);
        run.does("hours(12)").due("goat(0, 0)", 99).due("goat(1, 0)", 99).due("goat(0, 2)", 48).due("goat(1, 2)", 0);
    }

    private static void wereItFirst() {
        // Goat 1 would come too late for leaf 0, if it were second.
        Run run = Run.told("v0,1;h1,0,9;h9,0,0;g9,0;g9,0;").due("goat(0, 3)", 0).due("goat(1, 3)", 0);
        run.does("hours(1)").due("goat(0, 3)", 1).due("goat(1, 3)", 1);
        Run.told("v0,1;" + "h1,9,0;".repeat(6) + "h1,0,0;g9,0;g9,9;").due("goat(0, 3)", 6).due("goat(1, 3)", 0);
    }

    private static void wouldBiteNone() {
        Run.told(BIT).does("drive(0, 1)").due("goat(0, 3)", Run.NONE).does("drive(0, 0)").due("goat(0, 3)", 0)
            .does("fodder(0)").due("goat(0, 3)", Run.NONE);
        Run.told("v0,1;h9,0,0;g0,9;g1,9;").due("goat(0, 3)", Run.NONE).due("goat(1, 3)", 0);
        Run.told("v0,1;h9,1,0;g9,0;").due("goat(0, 3)", Run.NONE);
        Run.told("v0,1;b9,0,2;g9,0;").due("goat(0, 3)", Run.NONE);
        Run.told("v0,1;h1,0,2;g9,0;").does("hours(1)").due("goat(0, 3)", Run.NONE);
        Run.told("v0,1;t9,0,9;g9,0;").does("hours(1)").due("goat(0, 3)", Run.NONE);
    }

    private static void badGoat() {
        Edge.within(Made::rich, "goat(#, 0)", 0, 1);
        Edge.within(Made::rich, "goat(1, #)", 0, 3);
        Edge.refused(Made::bare, Run.BAD, "goat(0, 0)");
    }
}
