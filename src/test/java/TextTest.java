/** Promises 6 to 8. */
public final class TextTest {
    private static final String LEAF = "s1,0,0;";
    private static final String GOAT = "g0,0;";

    public static void main(String[] args) {
        promise6Feed();
        promise7Square();
        promise7ReplacesTheSquare();
        promise7FaultOfText();
        promise7FaultOfNumbers();
        promise7FaultOfRoom();
        promise7FaultChangesNothing();
        promise8Fault();
        Check.end();
    }

    private static void promise6Feed() {
        VineLaws x = new VineLaws();
        Check.due("feed(-1)", x.feed(-1), VineLaws.BAD);
        Check.due("feed(256)", x.feed(256), VineLaws.BAD);
        Check.due("count(7) behind BAD", x.count(7), 0);
        for (int i = 1; i <= 120; i++) {
            Check.due("feed " + i, x.feed(i % 2 == 0 ? 255 : 0), i);
        }
        Check.due("feed 121", x.feed('v'), VineLaws.FULL);
        Check.due("feed(256) on a full tape", x.feed(256), VineLaws.BAD);
        Check.due("count(7) of a full tape", x.count(7), 120);
        Check.due("square() of 0s and 255s", x.square(), -1000100);
        Check.due("count(7) behind square", x.count(7), 0);
        Check.due("feed behind square", x.feed('v'), 1);
    }

    private static void promise7Square() {
        VineLaws x = Check.told("v9,9;s20,9,9;a01,0,0;h2,1,3;b4,5,6;t7,8,09;g40,9;g0,00;");
        long[][] leaves = {{1, 20, 9, 9}, {2, 1, 0, 0}, {3, 2, 1, 3}, {4, 4, 5, 6}, {5, 7, 8, 9}};
        Check.due("count(1)", x.count(1), 5);
        Check.due("count(2)", x.count(2), 2);
        for (int leaf = 0; leaf < 5; leaf++) {
            Check.due("kind of " + leaf, x.kind(leaf), leaves[leaf][0]);
            Check.due("size of " + leaf, x.leaf(leaf, 0), leaves[leaf][1]);
            Check.due("height of " + leaf, x.leaf(leaf, 1), leaves[leaf][2]);
            Check.due("taste of " + leaf, x.leaf(leaf, 2), leaves[leaf][3]);
            Check.due("left of " + leaf, x.leaf(leaf, 3), leaves[leaf][1]);
        }
        Check.due("liked salted one", x.leaf(1, 4), 9);
        Check.due("hunger of 0", x.goat(0, 0), 40);
        Check.due("reach of 0", x.goat(0, 1), 9);
        Check.due("hunger of 1", x.goat(1, 0), 0);
        Check.due("reach of 1", x.goat(1, 1), 0);
        x.hours(1);
        Check.due("hunger of 1 when it grew", x.goat(1, 0), 9);
        VineLaws most = Check.told("v0,1;" + LEAF.repeat(7) + GOAT.repeat(4));
        Check.due("leaves of the most", most.count(1), 7);
        Check.due("goats of the most", most.count(2), 4);
    }

    private static void promise7ReplacesTheSquare() {
        VineLaws x = Check.told("v1,1;s9,0,3;s9,0,3;g9,0;g9,0;");
        x.row(0, 0, 1);
        x.image(1);
        x.drive(1, 9);
        x.hours(3);
        Check.due("square() of another", Check.read(x, "v1,1;s8,0,3;g5,0;"), 1);
        Check.due("count(1) then", x.count(1), 1);
        Check.due("count(2) then", x.count(2), 1);
        Check.due("count(3) then", x.count(3), 0);
        Check.due("count(5) then", x.count(5), 8);
        Check.due("count(6) then", x.count(6), 0);
        Check.due("count(0) then", x.count(0), 1);
        Check.due("undo() then", x.undo(), VineLaws.STATE);
        Check.due("leaf 1 then", x.leaf(1, 0), VineLaws.BAD);
        Check.due("goat 1 then", x.goat(1, 0), VineLaws.BAD);
        Check.due("hours(1) then", x.hours(1), 2);
        Check.due("restore(1) then", x.restore(1), 1);
        Check.due("count(5) of the image", x.count(5), 18);
        Check.due("square() of two goats", Check.read(x, "v1,1;s8,0,3;g5,0;g5,0;"), 1);
        Check.due("goat 1 is there", x.goat(1, 2), 0);
    }

    private static void promise7FaultOfText() {
        dueFault("", 0, 1);
        dueFault("s", 0, 1);
        dueFault("V0,1;", 0, 1);
        dueFault("v", 1, 1);
        dueFault("v,", 1, 1);
        dueFault("v 0,1;", 1, 1);
        dueFault("v0;1;", 2, 1);
        dueFault("v0,,", 3, 1);
        dueFault("v0,1,", 4, 1);
        dueFault("v0,1;", 5, 1);
        dueFault("v0,1;" + GOAT, 5, 1);
        dueFault("v0,1;q1,0,0;", 5, 1);
        dueFault("v0,1;1", 5, 1);
        dueFault("v0,1;s1,0,0", 11, 1);
        dueFault("v0,1;" + LEAF, 12, 1);
        dueFault("v0,1;" + LEAF + "v", 12, 1);
        dueFault("v0,1;" + LEAF + ";", 12, 1);
        dueFault("v0,1;" + LEAF + "g0,0", 16, 1);
        dueFault("v0,1;" + LEAF + GOAT + LEAF, 17, 1);
        dueFault("v0,1;" + LEAF + GOAT + "\n", 17, 1);
        dueFault("v0,1;" + LEAF + GOAT + (char) 233, 17, 1);
        dueFault("v0,1;" + LEAF + GOAT + (char) 0, 17, 1);
        dueFault("v0,1;" + LEAF + GOAT + "0", 17, 1);
        dueFault("v0,1;" + LEAF + GOAT + "g", 18, 1);
        dueFault("v000,1;", 1, 1);
        dueFault("v0,123456789012345678901234567890;", 3, 1);
        dueFault("v0,1;s1,0,0;123", 12, 1);
        dueFault("vv10,1;", 1, 1);
        dueFault("v0,1;s1,0,0;g0,0,", 16, 1);
    }

    private static void promise7FaultOfNumbers() {
        dueFault("v10,1;", 1, 2);
        dueFault("v99", 1, 2);
        dueFault("v0,0;", 3, 2);
        dueFault("v0,00;", 3, 2);
        dueFault("v0,10;", 3, 2);
        dueFault("v0,1;s0,0,0;", 6, 2);
        dueFault("v0,1;s21,0,0;", 6, 2);
        dueFault("v0,1;h20,10,0;", 9, 2);
        dueFault("v0,1;a1,0,10;", 10, 2);
        dueFault("v0,1;" + LEAF + "g41,0;", 13, 2);
        dueFault("v0,1;" + LEAF + "g40,10;", 16, 2);
        dueFault("v10,q;", 1, 2);
        Check.due("two figures", Check.read(new VineLaws(), "v09,09;s20,09,09;g40,09;"), 1);
    }

    private static void promise7FaultOfRoom() {
        dueFault("v0,1;" + LEAF.repeat(7) + LEAF, 54, 3);
        dueFault("v0,1;" + LEAF.repeat(7) + "b", 54, 3);
        dueFault("v0,1;" + LEAF.repeat(7) + "x", 54, 1);
        dueFault("v0,1;" + LEAF.repeat(7), 54, 1);
        dueFault("v0,1;" + LEAF + GOAT.repeat(4) + GOAT, 32, 3);
        dueFault("v0,1;" + LEAF + GOAT.repeat(4) + "s", 32, 1);
        dueFault("v0,1;" + LEAF + GOAT.repeat(4) + "9", 32, 1);
    }

    private static void promise7FaultChangesNothing() {
        VineLaws x = Check.told("v1,1;s9,0,3;s5,0,2;g9,0;");
        x.hours(2);
        Check.due("square() of a fault", Check.read(x, "v2,2;a3,1,1;t4,2,2;b3,3,3;g1,1;g2,2;g99,9;"), -1000137);
        Check.due("count(7) then", x.count(7), 0);
        Check.due("count(1) then", x.count(1), 2);
        Check.due("count(2) then", x.count(2), 1);
        Check.due("count(3) then", x.count(3), 2);
        Check.due("count(5) then", x.count(5), 10);
        Check.due("count(6) then", x.count(6), 2);
        Check.due("kind(0) then", x.kind(0), 1);
        Check.due("hunger then", x.goat(0, 0), 7);
        Check.due("undo() then", x.undo(), 1);
        Check.due("left then", x.leaf(0, 3), 7);
    }

    private static void promise8Fault() {
        VineLaws x = new VineLaws();
        Check.due("fault() before one", x.fault(), 0);
        Check.read(x, "v0,1;" + LEAF + GOAT);
        Check.due("fault() of none", x.fault(), 0);
        Check.read(x, "v10");
        Check.due("fault() of a number", x.fault(), 2);
        Check.read(x, "v0,1;" + LEAF + GOAT);
        Check.due("fault() stays", x.fault(), 2);
        Check.read(x, "v0,1;" + LEAF.repeat(8));
        Check.due("fault() of room", x.fault(), 3);
        x.square();
        Check.due("fault() of the end", x.fault(), 1);
    }

    private static void dueFault(String text, int place, int number) {
        VineLaws x = new VineLaws();
        Check.due("square() of " + text, Check.read(x, text), -1000100 - place);
        Check.due("fault() of " + text, x.fault(), number);
        Check.due("count(1) of " + text, x.count(1), 0);
    }
}
