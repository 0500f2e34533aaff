/** Promises 18 to 35: what is foretold, worked out by hand, and that nothing changes by it. */
public final class ForetoldTest {
    private static final String SQUARE = ActsTest.SQUARE;
    /** Goat 0 reaches leaf 1 alone, goat 1 bites leaf 0 first, as both are liked by 3. */
    private static final String TWO = "v0,1;s4,5,3;s9,0,3;g9,0;g9,9;";

    public static void main(String[] args) {
        promise18Ahead();
        promise19Force();
        promise20Emptied();
        promise21Eats();
        promise22Guilt();
        promise23Gap();
        promise24Hangs();
        promise25Drives();
        promise26Harm();
        promise27Bait();
        promise28SafeHeight();
        promise29Who();
        promise29RefusesWho();
        promise30Strayed();
        promise31Rivals();
        promise32Wind();
        promise33Drawn();
        promise34Image();
        promise35Restore();
        nothingChanges();
        refusesWithoutSquare();
        Check.end();
    }

    private static void promise18Ahead() {
        VineLaws x = Check.told(SQUARE);
        int[][] left = {{5, 5, 5, 5, 1, 1, 0, 0}, {3, 1, 0, 0, 0, 0, 0, 0}, {4, 4, 2, 0, 0, 0, 0, 0},
            {2, 0, 0, 0, 0, 0, 0, 0}, {9, 9, 9, 8, 8, 5, 5, 2}};
        for (int leaf = 0; leaf < 5; leaf++) {
            for (int n = 0; n < 8; n++) {
                Check.due("ahead(" + leaf + ", " + n + ")", x.ahead(leaf, n), left[leaf][n]);
            }
        }
        Check.due("ahead(4, 60)", x.ahead(4, 60), 0);
        Check.due("ahead(0, 61)", x.ahead(0, 61), VineLaws.BAD);
        Check.due("ahead(0, -1)", x.ahead(0, -1), VineLaws.BAD);
        Check.due("ahead(5, 0)", x.ahead(5, 0), VineLaws.BAD);
        Check.due("ahead(-1, 0)", x.ahead(-1, 0), VineLaws.BAD);
    }

    private static void promise19Force() {
        VineLaws x = Check.told(SQUARE);
        int[] inForce = {31, 21, 21, 17, 16, 16, 16, 0};
        for (int n = 0; n < inForce.length; n++) {
            Check.due("force(" + n + ")", x.force(n), inForce[n]);
        }
        Check.due("force(60)", x.force(60), 0);
        Check.due("force(61)", x.force(61), VineLaws.BAD);
        Check.due("force(-1)", x.force(-1), VineLaws.BAD);
    }

    private static void promise20Emptied() {
        VineLaws x = Check.told(SQUARE);
        int[] emptied = {6, 2, 3, 1, 9};
        for (int leaf = 0; leaf < 5; leaf++) {
            Check.due("emptied(" + leaf + ")", x.emptied(leaf), emptied[leaf]);
        }
        Check.due("emptied(5)", x.emptied(5), VineLaws.BAD);
        Check.due("emptied(-1)", x.emptied(-1), VineLaws.BAD);
        x.hours(1);
        Check.due("emptied of a void one", x.emptied(3), 0);
        Check.due("emptied of one above reach", Check.told("v9,1;s1,9,9;g9,8;").emptied(0), VineLaws.NONE);
        // Hunger comes back each hour; the goat is away for 58 of them, then bites 20 hours or 2.
        VineLaws late = Check.told("v9,1;h2,0,0;g0,0;");
        late.drive(0, 58);
        Check.due("emptied behind 60", late.emptied(0), 60);
        late.drive(0, 59);
        Check.due("emptied behind 61", late.emptied(0), VineLaws.NONE);
    }

    private static void promise21Eats() {
        VineLaws x = Check.told(SQUARE);
        Check.due("eats(0, 0)", x.eats(0, 0), 0);
        Check.due("eats(0, 6)", x.eats(0, 6), 4);
        Check.due("eats(1, 6)", x.eats(1, 6), 7);
        Check.due("eats(2, 6)", x.eats(2, 6), 7);
        Check.due("eats(2, 1)", x.eats(2, 1), 2);
        Check.due("eats(0, 60) and all", x.eats(0, 60) + x.eats(1, 60) + x.eats(2, 60), 23);
        Check.due("eats(0, 61)", x.eats(0, 61), VineLaws.BAD);
        Check.due("eats(0, -1)", x.eats(0, -1), VineLaws.BAD);
        Check.due("eats(3, 1)", x.eats(3, 1), VineLaws.BAD);
        x.hours(3);
        Check.due("eats(2, 3) from hour 3", x.eats(2, 3), 3);
        x.drive(1, 1);
        Check.due("eats(1, 1) driven off", x.eats(1, 1), 0);
    }

    private static void promise22Guilt() {
        VineLaws x = Check.told(SQUARE);
        Check.due("guilt(0, 3)", x.guilt(0, 3), 0);
        Check.due("guilt(0, 6)", x.guilt(0, 6), 6);
        Check.due("guilt(1, 1)", x.guilt(1, 1), 4);
        Check.due("guilt(1, 6)", x.guilt(1, 6), 5);
        Check.due("guilt(2, 2)", x.guilt(2, 2), 6);
        Check.due("guilt(2, 60)", x.guilt(2, 60), 7);
        Check.due("guilt(3, 1)", x.guilt(3, 1), 3);
        Check.due("guilt(4, 3)", x.guilt(4, 3), 4);
        Check.due("guilt(0, 0)", x.guilt(0, 0), VineLaws.BAD);
        Check.due("guilt(0, 61)", x.guilt(0, 61), VineLaws.BAD);
        Check.due("guilt(5, 1)", x.guilt(5, 1), VineLaws.BAD);
        x.hours(1);
        Check.due("guilt of a void one", x.guilt(3, 9), 0);
    }

    private static void promise23Gap() {
        VineLaws x = Check.told(SQUARE);
        Check.due("gap(0)", x.gap(0), 0);
        Check.due("gap(1)", x.gap(1), 4);
        Check.due("gap(4)", x.gap(4), 3);
        Check.due("gap(8)", x.gap(8), 1);
        Check.due("gap(10)", x.gap(10), 1);
        Check.due("gap(31)", x.gap(31), 7);
        Check.due("gap(32)", x.gap(32), VineLaws.BAD);
        Check.due("gap(-1)", x.gap(-1), VineLaws.BAD);
        x.hours(1);
        Check.due("gap(10) then", x.gap(10), 0);
        Check.due("gap of one above reach", Check.told("v9,1;s1,9,9;g9,8;").gap(1), VineLaws.NONE);
        VineLaws late = Check.told("v9,1;h1,0,0;g0,0;");
        late.drive(0, 59);
        Check.due("gap behind 60", late.gap(1), 60);
        late.drive(0, 60);
        Check.due("gap behind 61", late.gap(1), VineLaws.NONE);
    }

    private static void promise24Hangs() {
        VineLaws x = Check.told(SQUARE);
        dueHangs(x, 0, 30, 0, 0);
        dueHangs(x, 5, 2, 0, 0);
        // Goat 2 reaches height 9: hung there leaf 3 loses one of its two in the first hour.
        dueHangs(x, 8, 1, 1, 8);
        dueHangs(x, 8, 2, VineLaws.NONE, VineLaws.NONE);
        dueHangs(x, 1, 4, 1, 1);
        x.hours(1);
        // A void leaf can't be hung, nor be in force.
        dueHangs(x, 8, 1, VineLaws.NONE, VineLaws.NONE);
        // Leaf 0 alone at the top leaves both goats to leaf 1, so both are needed.
        VineLaws y = Check.told("v0,1;s4,0,3;s4,0,3;g9,8;g9,8;");
        dueHangs(y, 3, 2, 2, 3);
        dueHangs(y, 1, 2, 1, 1);
        dueHangs(y, 2, 2, 1, 2);
        // Leaf 0 draws the goat away as long as it hangs low; without it the others must hang high, too.
        VineLaws z = Check.told("v0,1;h9,0,9;h1,0,3;h1,0,3;g9,0;");
        dueHangs(z, 6, 9, 0, 0);
        dueHangs(z, 7, 5, 3, 7);
        Check.due("hangs(32, 1, 0)", x.hangs(32, 1, 0), VineLaws.BAD);
        Check.due("hangs(-1, 1, 0)", x.hangs(-1, 1, 0), VineLaws.BAD);
        Check.due("hangs(1, 0, 0)", x.hangs(1, 0, 0), VineLaws.BAD);
        Check.due("hangs(1, 31, 0)", x.hangs(1, 31, 0), VineLaws.BAD);
        Check.due("hangs(1, 1, 2)", x.hangs(1, 1, 2), VineLaws.BAD);
        Check.due("hangs(1, 1, -1)", x.hangs(1, 1, -1), VineLaws.BAD);
    }

    private static void dueHangs(VineLaws x, int leaves, int n, int many, int which) {
        Check.due("hangs(" + leaves + ", " + n + ", 0)", x.hangs(leaves, n, 0), many);
        Check.due("hangs(" + leaves + ", " + n + ", 1)", x.hangs(leaves, n, 1), which);
    }

    private static void promise25Drives() {
        VineLaws x = Check.told(SQUARE);
        dueDrives(x, 0, 30, 0, 0);
        dueDrives(x, 5, 2, 0, 0);
        // Two goats that stay bite leaf 3 empty, so one may stay.
        dueDrives(x, 8, 1, 2, 3);
        dueDrives(x, 8, 2, 3, 7);
        // Of goats that bite alike the least bits are told.
        dueDrives(Check.told("v0,1;s4,0,3;g9,0;g9,0;"), 1, 1, 1, 1);
        // Goats 0 and 1 bite once each, goat 2 twice; two bites may be: goat 2 alone, not 0 and 1, is the fewest.
        dueDrives(Check.told("v0,1;s8,0,3;g2,0;g2,0;g4,0;"), 1, 2, 1, 4);
        VineLaws y = Check.told(TWO);
        dueDrives(y, 1, 2, 1, 2);
        dueDrives(y, 2, 3, 1, 1);
        dueDrives(y, 3, 30, 2, 3);
        y.hours(2);
        dueDrives(y, 1, 1, VineLaws.NONE, VineLaws.NONE);
        Check.due("drives(4, 1, 0)", y.drives(4, 1, 0), VineLaws.BAD);
        Check.due("drives(-1, 1, 0)", y.drives(-1, 1, 0), VineLaws.BAD);
        Check.due("drives(1, 0, 0)", y.drives(1, 0, 0), VineLaws.BAD);
        Check.due("drives(1, 31, 0)", y.drives(1, 31, 0), VineLaws.BAD);
        Check.due("drives(1, 1, 2)", y.drives(1, 1, 2), VineLaws.BAD);
        Check.due("drives(1, 1, -1)", y.drives(1, 1, -1), VineLaws.BAD);
    }

    private static void dueDrives(VineLaws x, int leaves, int n, int many, int which) {
        Check.due("drives(" + leaves + ", " + n + ", 0)", x.drives(leaves, n, 0), many);
        Check.due("drives(" + leaves + ", " + n + ", 1)", x.drives(leaves, n, 1), which);
    }

    private static void promise26Harm() {
        VineLaws x = Check.told(SQUARE);
        Check.due("harm(1, 0), all alike", x.harm(1, 0), 0);
        Check.due("harm(1, 1)", x.harm(1, 1), 4);
        Check.due("harm(4, 0)", x.harm(4, 0), 0);
        Check.due("harm(4, 1)", x.harm(4, 1), 2);
        VineLaws y = Check.told(TWO);
        // Without goat 1 leaf 0 is whole, and 5 of 9 are left of leaf 1.
        Check.due("harm(2, 0)", y.harm(2, 0), 1);
        Check.due("harm(2, 1)", y.harm(2, 1), 2);
        Check.due("harm(0, 0)", y.harm(0, 0), VineLaws.BAD);
        Check.due("harm(61, 0)", y.harm(61, 0), VineLaws.BAD);
        Check.due("harm(60, 2)", y.harm(60, 2), VineLaws.BAD);
        Check.due("harm(60, -1)", y.harm(60, -1), VineLaws.BAD);
        Check.due("harm(60, 1)", y.harm(60, 1), 1);
        // All these hours, whatever it was driven off for: the goat would be back for the second one.
        VineLaws z = Check.told("v0,1;s4,0,3;g9,0;");
        z.drive(0, 1);
        Check.due("harm(9, 1)", z.harm(9, 1), 1);
    }

    private static void promise27Bait() {
        // Leaves 1 and 2 are not liked yet, leaf 3 hangs too high; the goats bite 4 each hour.
        VineLaws x = Check.told("v0,1;s4,0,3;b6,0,1;t5,0,2;s2,9,0;g9,0;g9,0;");
        Check.due("bait(0, 1, 0), the first", x.bait(0, 1, 0), 1);
        Check.due("bait(0, 1, 1)", x.bait(0, 1, 1), 4);
        Check.due("bait(0, 2, 0)", x.bait(0, 2, 0), 1);
        Check.due("bait(0, 2, 1)", x.bait(0, 2, 1), 4);
        Check.due("bait(1, 1, 0)", x.bait(1, 1, 0), 0);
        Check.due("bait(1, 1, 1)", x.bait(1, 1, 1), 6);
        x.hang(1, 9);
        Check.due("bait(0, 1, 0), the thorny one", x.bait(0, 1, 0), 2);
        Check.due("bait(0, 2, 0), none helps", x.bait(0, 2, 0), 1);
        Check.due("bait(0, 2, 1)", x.bait(0, 2, 1), 0);
        Check.due("bait(4, 1, 0)", x.bait(4, 1, 0), VineLaws.BAD);
        Check.due("bait(0, 0, 0)", x.bait(0, 0, 0), VineLaws.BAD);
        Check.due("bait(0, 31, 0)", x.bait(0, 31, 0), VineLaws.BAD);
        Check.due("bait(0, 30, 2)", x.bait(0, 30, 2), VineLaws.BAD);
        Check.due("bait(0, 30, -1)", x.bait(0, 30, -1), VineLaws.BAD);
        x.hours(1);
        Check.due("bait of a void one", x.bait(0, 1, 0), 1);
        Check.due("bait of a void one, left", x.bait(0, 1, 1), 0);
        VineLaws y = Check.told("v0,1;s1,0,9;s9,0,3;g9,0;");
        y.hours(1);
        Check.due("no other one is left", y.bait(1, 1, 0), VineLaws.NONE);
        Check.due("no other one is left, how much", y.bait(1, 1, 1), VineLaws.NONE);
    }

    private static void promise28SafeHeight() {
        VineLaws x = Check.told(TWO);
        Check.due("safeHeight(1, 2)", x.safeHeight(1, 2), 1);
        Check.due("safeHeight(1, 3)", x.safeHeight(1, 3), VineLaws.NONE);
        Check.due("safeHeight(0, 1)", x.safeHeight(0, 1), VineLaws.NONE);
        VineLaws y = Check.told("v0,1;s4,0,3;g9,8;");
        Check.due("safeHeight above reach", y.safeHeight(0, 60), 9);
        Check.due("safeHeight(0, 0)", x.safeHeight(0, 0), VineLaws.BAD);
        Check.due("safeHeight(0, 61)", x.safeHeight(0, 61), VineLaws.BAD);
        Check.due("safeHeight(2, 1)", x.safeHeight(2, 1), VineLaws.BAD);
        x.hours(2);
        Check.due("safeHeight of a void one", x.safeHeight(0, 1), VineLaws.STATE);
        Check.due("BAD ahead of void", x.safeHeight(0, 61), VineLaws.BAD);
        y.fodder(0);
        Check.due("safeHeight of the fed", y.safeHeight(0, 60), 0);
    }

    private static void promise29Who() {
        // One goat: leaf 0 has 2 left behind the first hour, 0 behind the second.
        VineLaws x = Check.told("v0,1;s4,0,3;h4,0,3;g5,0;");
        Check.items(x, 0, 9, 2, 0);
        Check.due("kinds of 0 by itself", x.who(0, 0, 0, 0, 1, 2), 6);
        Check.due("heights of 0 by itself", x.who(0, 1, 0, 0, 1, 2), 1);
        Check.due("tastes of 0 by itself", x.who(0, 2, 0, 0, 1, 2), 1048568);
        Check.due("kinds of 1 by 0", x.who(1, 0, 0, 0, 1, 2), 58);
        Check.due("heights of 1 by 0", x.who(1, 1, 0, 0, 1, 2), 1023);
        Check.due("tastes of 1 by 0", x.who(1, 2, 0, 0, 1, 2), 15);
        Check.due("kinds by a row that never is", x.who(0, 0, 0, 0, 0, 2), 0);
        Check.items(x, 1, 3);
        Check.due("kinds of 0 by one hour", x.who(0, 0, 0, 1, 0, 1), 8);
        Check.items(x, 2, 4, 4, 4, 4, 4, 4, 4, 4, 4, 4, 4, 4);
        Check.due("heights of 0 by twelve hours", x.who(0, 1, 0, 2, 0, 12), 1022);
        // A thorny one is bitten in even hours alone.
        VineLaws y = Check.told("v0,1;s9,0,9;g9,0;");
        Check.items(y, 0, 8, 8, 7, 7);
        Check.due("kinds of a thorny one", y.who(0, 0, 0, 0, 0, 4), 32);
        // Shorts and ints tell it as well.
        y.row(1, 2, 1);
        y.set(1, 0, 8 + 256);
        Check.due("kinds by an int", y.who(0, 0, 0, 1, 0, 1), 0);
        y.set(1, 0, 7);
        Check.due("kinds by another int", y.who(0, 0, 0, 1, 0, 1), 6);
        // It is told from now on, whatever was eaten.
        y.hours(1);
        y.set(1, 0, 5);
        Check.due("kinds by what is left", y.who(0, 0, 0, 1, 0, 1), 6);
    }

    private static void promise29RefusesWho() {
        VineLaws x = Check.told(TWO);
        Check.items(x, 0, 4, 4, 4);
        Check.due("who of leaf 2", x.who(2, 0, 0, 0, 0, 1), VineLaws.BAD);
        Check.due("who of leaf -1", x.who(-1, 0, 0, 0, 0, 1), VineLaws.BAD);
        Check.due("who, which 3", x.who(0, 3, 0, 0, 0, 1), VineLaws.BAD);
        Check.due("who, which -1", x.who(0, -1, 0, 0, 0, 1), VineLaws.BAD);
        Check.due("who by leaf 2", x.who(0, 0, 2, 0, 0, 1), VineLaws.BAD);
        Check.due("who by row 8", x.who(0, 0, 0, 8, 0, 1), VineLaws.BAD);
        Check.due("who by row -1", x.who(0, 0, 0, -1, 0, 1), VineLaws.BAD);
        Check.due("who by 0 items", x.who(0, 0, 0, 0, 0, 0), VineLaws.BAD);
        Check.due("who by 13 items", x.who(0, 0, 0, 0, 0, 13), VineLaws.BAD);
        Check.due("who by a missing row", x.who(0, 0, 0, 1, -1, 1), -1000011);
        Check.due("who from place -1", x.who(0, 0, 0, 0, -1, 1), -1000012);
        Check.due("who beyond the end", x.who(0, 0, 0, 0, 1, 3), -1000012);
        Check.due("who from place max", x.who(0, 0, 0, 0, Integer.MAX_VALUE, 1), -1000012);
        Check.due("BAD ahead of a missing row", x.who(0, 0, 0, 1, 0, 13), VineLaws.BAD);
    }

    private static void promise30Strayed() {
        VineLaws x = Check.told(TWO);
        Check.items(x, 0, 2, 0, 4, 4);
        Check.due("strayed, as it is or without goat 0", x.strayed(0, 0, 0, 2), 17);
        Check.due("strayed, without goat 1", x.strayed(0, 0, 2, 2), 2);
        Check.due("strayed, by none", x.strayed(0, 0, 1, 2), 0);
        x.force(9);
        Check.due("strayed behind what was foretold", x.strayed(0, 0, 0, 2), 17);
        // Driven off all the while, not for the hour that it was.
        x.drive(1, 1);
        Check.items(x, 1, 4, 2);
        Check.due("strayed, driven off for one hour", x.strayed(0, 1, 0, 2), 17);
        Check.due("strayed of leaf 2", x.strayed(2, 0, 0, 1), VineLaws.BAD);
        Check.due("strayed by row 8", x.strayed(0, 8, 0, 1), VineLaws.BAD);
        Check.due("strayed by 0 items", x.strayed(0, 0, 0, 0), VineLaws.BAD);
        Check.due("strayed by 13 items", x.strayed(0, 0, 0, 13), VineLaws.BAD);
        Check.due("strayed by a missing row", x.strayed(0, 2, 0, 1), -1000011);
        Check.due("strayed from place -1", x.strayed(0, 0, -1, 1), -1000012);
        Check.due("strayed beyond the end", x.strayed(0, 0, 3, 2), -1000012);
        VineLaws four = Check.told("v0,1;s9,9,0;g0,0;g0,0;g0,0;g0,0;");
        Check.items(four, 0, 9, 9, 9, 9, 9, 9, 9, 9, 9, 9, 9, 9);
        Check.due("strayed of four goats", four.strayed(0, 0, 0, 12), 31);
    }

    private static void promise31Rivals() {
        VineLaws x = Check.told(SQUARE);
        Check.due("rivals(0)", x.rivals(0), 3);
        Check.due("rivals(1)", x.rivals(1), 12);
        x.hours(1);
        Check.due("rivals(0) in an odd hour", x.rivals(0), 1);
        Check.due("rivals(1) in an odd hour", x.rivals(1), 12);
        x.hours(1);
        Check.due("rivals(1) in hour 2", x.rivals(1), 24);
        x.hours(1);
        Check.due("rivals(0), void and not liked", x.rivals(0), 0);
        Check.due("rivals(1), none", x.rivals(1), VineLaws.NONE);
        Check.due("rivals(2)", x.rivals(2), VineLaws.BAD);
        Check.due("rivals(-1)", x.rivals(-1), VineLaws.BAD);
        VineLaws y = Check.told("v0,1;s1,0,9;h1,0,4;h1,0,4;s1,0,9;g0,0;");
        Check.due("rivals(1), the first of two", y.rivals(1), 3);
        VineLaws z = Check.told("v0,1;b1,0,0;t1,0,1;b1,0,2;g0,0;");
        Check.due("rivals(0) of those not liked", z.rivals(0), 0);
    }

    private static void promise32Wind() {
        // Torn, leaf 0 is still in force, leaf 1 isn't (1 of 3).
        VineLaws x = Check.told("v0,1;s4,0,3;s3,0,3;g0,0;");
        dueWind(x, 2, 5, 1, 2);
        dueWind(x, 2, 3, 7, 10);
        dueWind(x, 1, 3, 1, 1);
        dueWind(x, 0, 10, 1, 1);
        dueWind(x, 2, 10, 0, 1);
        dueWind(x, 2, 0, 1, 1);
        dueWind(x, 3, 5, 0, 1);
        dueWind(x, 7, 5, 0, 1);
        // Behind the hour: whole it has 2 of 4 then, torn nothing.
        VineLaws y = Check.told("v0,1;s4,0,3;g9,0;");
        dueWind(y, 1, 4, 3, 5);
        y.hours(1);
        dueWind(y, 1, 4, 0, 1);
        y.hours(1);
        dueWind(y, 0, 4, 1, 1);
        // Half of what is left, not of its size: 3 of 8 is no law.
        VineLaws z = Check.told("v0,1;s8,0,3;g2,0;");
        z.hours(1);
        dueWind(z, 1, 5, 1, 2);
        // Seven leaves of one, each lost if torn: all stand in 7 of 10 cases, apart.
        VineLaws seven = Check.told("v0,1;" + "s1,0,0;".repeat(7) + "g0,0;");
        dueWind(seven, 7, 3, 823543, 10000000);
        dueWind(seven, 1, 7, 9176457, 10000000);
        Check.due("wind(-1, 0, 0)", x.wind(-1, 0, 0), VineLaws.BAD);
        Check.due("wind(8, 0, 0)", x.wind(8, 0, 0), VineLaws.BAD);
        Check.due("wind(0, -1, 0)", x.wind(0, -1, 0), VineLaws.BAD);
        Check.due("wind(0, 11, 0)", x.wind(0, 11, 0), VineLaws.BAD);
        Check.due("wind(0, 0, 2)", x.wind(0, 0, 2), VineLaws.BAD);
        Check.due("wind(0, 0, -1)", x.wind(0, 0, -1), VineLaws.BAD);
    }

    private static void dueWind(VineLaws x, int k, int p, long above, long below) {
        Check.due("wind(" + k + ", " + p + ", 0)", x.wind(k, p, 0), above);
        Check.due("wind(" + k + ", " + p + ", 1)", x.wind(k, p, 1), below);
    }

    private static void promise33Drawn() {
        // By seed 1 the fifth X (1144108930) copies the leaf, the seventh (101027544) drives the goat off.
        VineLaws x = Check.told("v1,1;s8,0,3;g1,0;");
        int[] left = {8, 6, 4, 2, 0, 6, 4, 4, 4, 2, 0};
        int[] often = {0, 0, 0, 0, 1, 1, 1, 1, 1, 1, 2};
        for (int n = 0; n <= 10; n++) {
            Check.due("drawn(" + n + ", 1, 0)", x.drawn(n, 1, 0), left[n]);
            Check.due("drawn(" + n + ", 1, 1)", x.drawn(n, 1, 1), often[n]);
        }
        // Of two leaves the fifth X copies leaf 0, of two goats the seventh drives goat 0 off.
        VineLaws y = Check.told("v1,1;h9,0,3;h9,9,9;g1,0;g1,9;");
        Check.due("drawn(4, 1, 0) of two", y.drawn(4, 1, 0), 10);
        Check.due("drawn(5, 1, 0) of two", y.drawn(5, 1, 0), 12);
        Check.due("drawn(7, 1, 0) of two", y.drawn(7, 1, 0), 9);
        y.drive(0, 60);
        Check.due("drawn(9, 1, 0), driven off for 2 then", y.drawn(9, 1, 0), 8);
        VineLaws z = Check.told("v1,1;h2,0,3;g1,0;");
        Check.due("drawn(1, 1, 1) with one left", z.drawn(1, 1, 1), 0);
        Check.due("drawn(2, 1, 1) with none left", z.drawn(2, 1, 1), 1);
        Check.due("drawn(60, 999999, 0)", x.drawn(60, 999999, 0) >= 0 ? 1 : 0, 1);
        Check.due("drawn(-1, 1, 0)", x.drawn(-1, 1, 0), VineLaws.BAD);
        Check.due("drawn(61, 1, 0)", x.drawn(61, 1, 0), VineLaws.BAD);
        Check.due("drawn(1, 0, 0)", x.drawn(1, 0, 0), VineLaws.BAD);
        Check.due("drawn(1, 1000000, 0)", x.drawn(1, 1000000, 0), VineLaws.BAD);
        Check.due("drawn(1, 1, 2)", x.drawn(1, 1, 2), VineLaws.BAD);
        Check.due("drawn(1, 1, -1)", x.drawn(1, 1, -1), VineLaws.BAD);
    }

    private static void promise34Image() {
        VineLaws x = Check.told(SQUARE);
        x.hours(1);
        Check.due("image(0)", x.image(0), 1);
        Check.due("count(6) stays", x.count(6), 1);
        x.hours(1);
        Check.due("image(1)", x.image(1), 1);
        x.hours(1);
        Check.due("restore(0)", x.restore(0), 1);
        Check.due("hour of image 0", x.count(3), 1);
        Check.due("restore(1)", x.restore(1), 1);
        Check.due("hour of image 1", x.count(3), 2);
        Check.due("image(0) again", x.image(0), 1);
        x.hours(1);
        x.restore(0);
        Check.due("hour of the new image", x.count(3), 2);
        Check.due("image(2)", x.image(2), VineLaws.BAD);
        Check.due("image(-1)", x.image(-1), VineLaws.BAD);
        Check.due("image(2) without a square", new VineLaws().image(2), VineLaws.BAD);
        Check.due("image(1) without a square", new VineLaws().image(1), VineLaws.STATE);
    }

    private static void promise35Restore() {
        VineLaws x = Check.told(SQUARE);
        Check.due("restore(0) of none", x.restore(0), VineLaws.STATE);
        x.hours(2);
        x.drive(1, 5);
        x.salt(0);
        x.hang(0, 8);
        x.image(0);
        x.hours(3);
        x.transcribe(3);
        x.fodder(0);
        Check.read(x, "v0,9;t3,4,5;g1,1;");
        x.hours(1);
        Check.due("restore(0)", x.restore(0), 1);
        Check.due("no act then", x.count(6), 0);
        Check.due("undo() then", x.undo(), VineLaws.STATE);
        Check.due("leaves", x.count(1), 5);
        Check.due("goats", x.count(2), 3);
        Check.due("hour", x.count(3), 2);
        Check.due("left of all", x.count(5), 16);
        Check.due("taste", x.leaf(0, 2), 5);
        Check.due("height", x.leaf(0, 1), 8);
        Check.due("away", x.goat(1, 2), 5);
        Check.due("hunger", x.goat(0, 0), 6);
        Check.due("kind", x.kind(4), 5);
        Check.due("salted by the law of then", x.transcribe(1) + x.leaf(1, 4), 5);
        x.restore(0);
        x.hours(1);
        Check.due("hunger that grew by the law of then", x.goat(1, 0), 13);
        Check.due("restore(0) twice", x.restore(0), 1);
        Check.due("hour twice", x.count(3), 2);
        Check.due("restore(1) of none", x.restore(1), VineLaws.STATE);
        Check.due("restore(2)", x.restore(2), VineLaws.BAD);
        Check.due("restore(-1)", x.restore(-1), VineLaws.BAD);
    }

    private static void nothingChanges() {
        VineLaws x = Check.told(SQUARE);
        x.hours(1);
        Check.items(x, 0, 5, 5);
        long before = look(x);
        x.ahead(0, 9);
        x.force(9);
        x.emptied(0);
        x.eats(0, 9);
        x.guilt(0, 9);
        x.gap(31);
        x.hangs(31, 9, 0);
        x.drives(31, 9, 0);
        x.harm(9, 0);
        x.bait(0, 9, 0);
        x.safeHeight(0, 9);
        x.who(0, 2, 0, 0, 0, 2);
        x.strayed(0, 0, 0, 2);
        x.rivals(0);
        x.wind(2, 5, 0);
        x.drawn(60, 1, 0);
        Check.due("all that can be looked at", look(x), before);
    }

    /** A number into which all that a square shows goes. */
    private static long look(VineLaws x) {
        long sum = 0;
        for (int what = 0; what < 8; what++) {
            sum = sum * 31 + x.count(what);
            for (int i = 0; i < 7; i++) {
                sum = (sum * 31 + x.leaf(i, what)) * 31 + x.goat(i, what);
            }
        }
        return sum;
    }

    private static void refusesWithoutSquare() {
        VineLaws x = new VineLaws();
        Check.due("force(61)", x.force(61), VineLaws.STATE);
        Check.due("gap(-1)", x.gap(-1), VineLaws.STATE);
        Check.due("hangs(-1, 0, 2)", x.hangs(-1, 0, 2), VineLaws.STATE);
        Check.due("drives(-1, 0, 2)", x.drives(-1, 0, 2), VineLaws.STATE);
        Check.due("harm(0, 2)", x.harm(0, 2), VineLaws.STATE);
        Check.due("rivals(2)", x.rivals(2), VineLaws.STATE);
        Check.due("wind(8, 11, 2)", x.wind(8, 11, 2), VineLaws.STATE);
        Check.due("drawn(61, 0, 2)", x.drawn(61, 0, 2), VineLaws.STATE);
        Check.due("ahead(0, 0)", x.ahead(0, 0), VineLaws.BAD);
        Check.due("emptied(0)", x.emptied(0), VineLaws.BAD);
        Check.due("eats(0, 0)", x.eats(0, 0), VineLaws.BAD);
        Check.due("guilt(0, 1)", x.guilt(0, 1), VineLaws.BAD);
        Check.due("bait(0, 1, 0)", x.bait(0, 1, 0), VineLaws.BAD);
        Check.due("safeHeight(0, 1)", x.safeHeight(0, 1), VineLaws.BAD);
        x.row(0, 0, 1);
        Check.due("who(0, 0, 0, 0, 0, 1)", x.who(0, 0, 0, 0, 0, 1), VineLaws.BAD);
        Check.due("strayed(0, 0, 0, 1)", x.strayed(0, 0, 0, 1), VineLaws.BAD);
    }
}
