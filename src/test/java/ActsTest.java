/** Promises 9 to 17: what is done, worked out by hand for the square below. */
public final class ActsTest {
    /**
     * Liked in even hours 4, 5, 5, 6, 5; in odd ones 4, 5, 5, 6 and the thorny one not at all.
     * Hour 0: goats 0 and 1 bite leaf 3 empty, goat 2 bites 2 of leaf 1: hunger 5, 10, 2.
     * Hour 1: goat 0 bites leaf 1 empty (1), goats 1 and 2 bite leaf 2: hunger 6, 11, 3.
     * Hour 2: goats 0 and 1 bite leaf 2 empty, goat 2 bites leaf 4: hunger 7, 12, 4.
     * Hour 3: goat 0 reaches nothing, goats 1 and 2 bite leaf 0: hunger 9, 12, 4.
     */
    static final String SQUARE = "v2,1;s5,3,4;a3,0,4;h4,0,5;b2,0,9;t9,0,8;g4,0;g9,3;g1,9;";

    public static void main(String[] args) {
        promise9Undo();
        promise9ForgetsTheOldest();
        promise10Hours();
        promise10Hunger();
        promise10Full();
        promise11Hang();
        promise12Salt();
        promise13Transcribe();
        promise14Drive();
        promise15Fodder();
        promise16Leaf();
        promise17Goat();
        refusesWithoutSquare();
        Check.end();
    }

    private static void promise9Undo() {
        VineLaws x = Check.told(SQUARE);
        Check.due("undo() of none", x.undo(), VineLaws.STATE);
        x.hours(2);
        x.hang(0, 7);
        x.salt(0);
        x.transcribe(1);
        x.drive(0, 5);
        x.fodder(1);
        Check.due("acts", x.count(6), 7);
        Check.due("undo() of fodder", x.undo(), 6);
        Check.due("hunger", x.goat(1, 0), 11);
        Check.due("undo() of drive", x.undo(), 5);
        Check.due("away", x.goat(0, 2), 0);
        Check.due("undo() of transcribe", x.undo(), 4);
        Check.due("left", x.leaf(1, 3), 0);
        Check.due("undo() of salt", x.undo(), 3);
        Check.due("taste", x.leaf(0, 2), 4);
        Check.due("undo() of hang", x.undo(), 2);
        Check.due("height", x.leaf(0, 1), 3);
        Check.due("undo() of an hour", x.undo(), 1);
        dueLeft(x, 5, 1, 4, 0, 9);
        dueHunger(x, 5, 10, 2);
        Check.due("hour", x.count(3), 1);
        Check.due("undo() of the first hour", x.undo(), 0);
        dueLeft(x, 5, 3, 4, 2, 9);
        dueHunger(x, 4, 9, 1);
        Check.due("hour", x.count(3), 0);
        Check.due("undo() of none again", x.undo(), VineLaws.STATE);
        // Also such by which nothing becomes another.
        x.hang(0, 3);
        x.transcribe(0);
        x.drive(0, 0);
        x.fodder(2);
        x.fodder(2);
        Check.due("acts by which nothing changes", x.count(6), 5);
        x.hang(0, 10);
        x.drive(9, 0);
        x.hours(0);
        Check.due("acts behind refusals", x.count(6), 5);
    }

    private static void promise9ForgetsTheOldest() {
        VineLaws x = Check.told("v0,1;s9,0,0;g9,0;");
        for (int act = 1; act <= 30; act++) {
            x.hang(0, act % 10);
            Check.due("acts kept of " + act, x.count(6), Math.min(24, act));
        }
        for (int act = 29; act >= 6; act--) {
            Check.due("undo() to act " + act, x.undo(), act - 6);
            Check.due("height by act " + act, x.leaf(0, 1), act % 10);
        }
        Check.due("undo() beyond", x.undo(), VineLaws.STATE);
        Check.due("height then", x.leaf(0, 1), 6);
        x.hang(0, 8);
        Check.due("undo() of one more", x.undo(), 0);
        Check.due("height then too", x.leaf(0, 1), 6);
        x.hours(24);
        Check.due("acts of 24 hours", x.count(6), 24);
        x.hang(0, 1);
        x.salt(0);
        for (int i = 0; i < 24; i++) {
            x.undo();
        }
        Check.due("hour by the oldest act kept", x.count(3), 2);
    }

    private static void promise10Hours() {
        VineLaws x = Check.told(SQUARE);
        Check.due("hour 0", x.hours(1), 4);
        dueLeft(x, 5, 1, 4, 0, 9);
        dueHunger(x, 5, 10, 2);
        Check.due("hour 1", x.hours(1), 3);
        dueLeft(x, 5, 0, 2, 0, 9);
        dueHunger(x, 6, 11, 3);
        Check.due("hours 2 and 3", x.hours(2), 7);
        dueLeft(x, 1, 0, 0, 0, 8);
        dueHunger(x, 9, 12, 4);
        Check.due("hour", x.count(3), 4);
        Check.due("acts", x.count(6), 4);
        Check.due("hours(0)", x.hours(0), VineLaws.BAD);
        Check.due("hours(25)", x.hours(25), VineLaws.BAD);
        Check.due("hours(-1)", x.hours(-1), VineLaws.BAD);
        VineLaws all = Check.told(SQUARE);
        Check.due("six hours", all.hours(6), 18);
        dueLeft(all, 0, 0, 0, 0, 5);
        VineLaws none = new VineLaws();
        Check.due("hours(0) without a square", none.hours(0), VineLaws.STATE);
        // Of several liked alike it is the first; one that is liked by 0 is liked.
        VineLaws ties = Check.told("v0,1;s9,0,0;b9,0,3;a9,5,9;g3,4;");
        ties.hours(1);
        dueLeft(ties, 7, 9, 9);
    }

    private static void promise10Hunger() {
        VineLaws x = Check.told("v9,1;s20,9,3;g40,0;g0,9;");
        x.hours(6);
        Check.due("hunger in 6 hours", x.goat(0, 0), 94);
        x.hours(1);
        Check.due("hunger 99 at most", x.goat(0, 0), 99);
        x.hours(1);
        Check.due("hunger stays 99", x.goat(0, 0), 99);
        VineLaws y = Check.told("v0,1;s20,0,3;g3,0;g1,0;");
        Check.due("bites of the hungry", y.hours(1), 4);
        dueHunger(y, 1, 0);
        Check.due("bites of the one still hungry", y.hours(1), 2);
        dueHunger(y, 0, 0);
        Check.due("bites of the fed", y.hours(1), 0);
        // Hunger is less by what the bite takes, not by what it could take.
        VineLaws z = Check.told("v0,1;s1,0,3;g9,0;");
        Check.due("a bite of what is left", z.hours(1), 1);
        dueHunger(z, 8);
    }

    private static void promise10Full() {
        VineLaws x = Check.told("v0,1;s20,0,3;t5,0,9;g0,0;");
        for (int i = 0; i < 41; i++) {
            x.hours(24);
        }
        Check.due("hours beyond 999", x.hours(16), VineLaws.FULL);
        Check.due("hour that stays", x.count(3), 984);
        Check.due("hours up to 999", x.hours(15), 0);
        Check.due("hour", x.count(3), 999);
        Check.due("one more", x.hours(1), VineLaws.FULL);
        Check.due("BAD ahead of FULL", x.hours(25), VineLaws.BAD);
        Check.due("thorny one in hour 999", x.leaf(1, 4), VineLaws.NONE);
        Check.due("ahead of hour 999", x.ahead(0, 60), 20);
    }

    private static void promise11Hang() {
        VineLaws x = Check.told(SQUARE);
        Check.due("hang(3, 9)", x.hang(3, 9), 0);
        Check.due("hang(3, 8)", x.hang(3, 8), 9);
        Check.due("hang(3, 8) again", x.hang(3, 8), 8);
        Check.due("height", x.leaf(3, 1), 8);
        Check.due("goat 0 then", x.goat(0, 3), 1);
        Check.due("goat 2 then", x.goat(2, 3), 3);
        Check.due("hang(-1, 0)", x.hang(-1, 0), VineLaws.BAD);
        Check.due("hang(5, 0)", x.hang(5, 0), VineLaws.BAD);
        Check.due("hang(0, -1)", x.hang(0, -1), VineLaws.BAD);
        Check.due("hang(0, 10)", x.hang(0, 10), VineLaws.BAD);
        x.undo();
        x.undo();
        x.undo();
        x.hours(1);
        Check.due("hang of a void one", x.hang(3, 5), VineLaws.STATE);
        Check.due("BAD ahead of void", x.hang(3, 10), VineLaws.BAD);
        Check.due("height of a void one", x.leaf(3, 1), 0);
    }

    private static void promise12Salt() {
        VineLaws x = Check.told(SQUARE);
        for (int taste = 5; taste <= 19; taste++) {
            Check.due("salt(0)", x.salt(0), taste);
        }
        Check.due("salt(0) at 19", x.salt(0), VineLaws.FULL);
        Check.due("taste", x.leaf(0, 2), 19);
        Check.due("acts", x.count(6), 15);
        Check.due("liked", x.leaf(0, 4), 19);
        Check.due("salt(-1)", x.salt(-1), VineLaws.BAD);
        Check.due("salt(5)", x.salt(5), VineLaws.BAD);
        VineLaws y = Check.told(SQUARE);
        y.hours(1);
        Check.due("salt of a void one", y.salt(3), 10);
    }

    private static void promise13Transcribe() {
        VineLaws x = Check.told(SQUARE);
        x.hours(1);
        Check.due("transcribe(1)", x.transcribe(1), 1);
        Check.due("left", x.leaf(1, 3), 3);
        Check.due("transcribe(3), void", x.transcribe(3), 0);
        Check.due("left of it", x.leaf(3, 3), 2);
        Check.due("liked again", x.leaf(3, 4), 6);
        Check.due("transcribe(0), whole", x.transcribe(0), 5);
        Check.due("transcribe(-1)", x.transcribe(-1), VineLaws.BAD);
        Check.due("transcribe(5)", x.transcribe(5), VineLaws.BAD);
    }

    private static void promise14Drive() {
        VineLaws x = Check.told(SQUARE);
        Check.due("drive(1, 2)", x.drive(1, 2), 0);
        Check.due("goat 1 then", x.goat(1, 3), VineLaws.NONE);
        // Goats 0 and 2 bite leaf 3 empty; then leaf 1 (2 of it, then 1).
        Check.due("hour 0", x.hours(1), 2);
        dueLeft(x, 5, 3, 4, 0, 9);
        dueHunger(x, 5, 11, 2);
        Check.due("away for one less", x.goat(1, 2), 1);
        Check.due("hour 1", x.hours(1), 3);
        dueLeft(x, 5, 0, 4, 0, 9);
        Check.due("back", x.goat(1, 2), 0);
        Check.due("goat 1 bites again", x.goat(1, 3), 2);
        x.hours(1);
        Check.due("not less than 0", x.goat(1, 2), 0);
        Check.due("drive(2, 60)", x.drive(2, 60), 0);
        Check.due("drive(2, 0)", x.drive(2, 0), 60);
        Check.due("drive(2, 5)", x.drive(2, 5), 0);
        Check.due("drive(2, 61)", x.drive(2, 61), VineLaws.BAD);
        Check.due("drive(2, -1)", x.drive(2, -1), VineLaws.BAD);
        Check.due("drive(3, 1)", x.drive(3, 1), VineLaws.BAD);
        Check.due("drive(-1, 1)", x.drive(-1, 1), VineLaws.BAD);
        Check.due("away behind refusals", x.goat(2, 2), 5);
    }

    private static void promise15Fodder() {
        VineLaws x = Check.told(SQUARE);
        Check.due("fodder(1)", x.fodder(1), 9);
        Check.due("hunger", x.goat(1, 0), 0);
        Check.due("goat 1 bites none", x.goat(1, 3), VineLaws.NONE);
        Check.due("fodder(1) again", x.fodder(1), 0);
        // Goats 0 and 2 bite leaf 3 empty.
        Check.due("hour 0", x.hours(1), 2);
        Check.due("hunger that grew", x.goat(1, 0), 2);
        Check.due("fodder(3)", x.fodder(3), VineLaws.BAD);
        Check.due("fodder(-1)", x.fodder(-1), VineLaws.BAD);
    }

    private static void promise16Leaf() {
        VineLaws x = Check.told(SQUARE);
        int[] even = {4, 5, 5, 6, 5};
        for (int leaf = 0; leaf < 5; leaf++) {
            Check.due("liked " + leaf, x.leaf(leaf, 4), even[leaf]);
            Check.due("in force " + leaf, x.leaf(leaf, 5), 2);
        }
        x.hours(1);
        Check.due("thorny one in an odd hour", x.leaf(4, 4), VineLaws.NONE);
        Check.due("void one", x.leaf(3, 4), VineLaws.NONE);
        Check.due("void one stands", x.leaf(3, 5), 0);
        Check.due("1 of 3 is a preamble", x.leaf(1, 5), 1);
        x.hours(1);
        Check.due("2 of 4 is in force", x.leaf(2, 5), 2);
        Check.due("size of a void one", x.leaf(3, 0), 2);
        Check.due("leaf(5, 0)", x.leaf(5, 0), VineLaws.BAD);
        Check.due("leaf(-1, 0)", x.leaf(-1, 0), VineLaws.BAD);
        Check.due("leaf(0, 6)", x.leaf(0, 6), VineLaws.BAD);
        Check.due("leaf(0, -1)", x.leaf(0, -1), VineLaws.BAD);
        VineLaws low = Check.told("v0,9;b1,0,2;t1,0,2;b1,0,3;t1,0,3;a1,0,0;s1,0,0;g0,0;");
        int[] liked = {VineLaws.NONE, VineLaws.NONE, 0, 0, 9, 0};
        for (int leaf = 0; leaf < 6; leaf++) {
            Check.due("little liked " + leaf, low.leaf(leaf, 4), liked[leaf]);
        }
    }

    private static void promise17Goat() {
        VineLaws x = Check.told(SQUARE);
        Check.due("reach", x.goat(1, 1), 3);
        Check.due("choice of goat 2, were it first", x.goat(2, 3), 3);
        x.hours(3);
        Check.due("goat 0 reaches nothing it likes", x.goat(0, 3), VineLaws.NONE);
        Check.due("goat 1 reaches leaf 0", x.goat(1, 3), 0);
        x.drive(1, 1);
        Check.due("driven off", x.goat(1, 3), VineLaws.NONE);
        x.fodder(2);
        Check.due("not hungry", x.goat(2, 3), VineLaws.NONE);
        Check.due("goat(3, 0)", x.goat(3, 0), VineLaws.BAD);
        Check.due("goat(-1, 0)", x.goat(-1, 0), VineLaws.BAD);
        Check.due("goat(0, 4)", x.goat(0, 4), VineLaws.BAD);
        Check.due("goat(0, -1)", x.goat(0, -1), VineLaws.BAD);
    }

    private static void refusesWithoutSquare() {
        VineLaws x = new VineLaws();
        Check.due("hours(1)", x.hours(1), VineLaws.STATE);
        Check.due("hang(0, 0)", x.hang(0, 0), VineLaws.BAD);
        Check.due("salt(0)", x.salt(0), VineLaws.BAD);
        Check.due("transcribe(0)", x.transcribe(0), VineLaws.BAD);
        Check.due("drive(0, 0)", x.drive(0, 0), VineLaws.BAD);
        Check.due("fodder(0)", x.fodder(0), VineLaws.BAD);
        Check.due("goat(0, 0)", x.goat(0, 0), VineLaws.BAD);
    }

    private static void dueLeft(VineLaws x, int... left) {
        for (int leaf = 0; leaf < left.length; leaf++) {
            Check.due("left of " + leaf + " in hour " + x.count(3), x.leaf(leaf, 3), left[leaf]);
        }
    }

    private static void dueHunger(VineLaws x, int... hunger) {
        for (int goat = 0; goat < hunger.length; goat++) {
            Check.due("hunger of " + goat + " in hour " + x.count(3), x.goat(goat, 0), hunger[goat]);
        }
    }
}
