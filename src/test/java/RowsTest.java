/** Promises 1 to 5, and 41 where it is told of rows. */
public final class RowsTest {
    /** Leaf 0 has 5 left in every hour, leaf 1 has 3: by these a test reads the items of a row. */
    private static final String STILL = "v0,1;s5,0,0;s3,0,0;g0,0;";

    public static void main(String[] args) {
        promise1NewObject();
        promise2Row();
        promise2RefusesRow();
        promise3Set();
        promise3RefusesSet();
        promise4Copy();
        promise4RefusesCopy();
        promise5Drop();
        promise41Status();
        Check.end();
    }

    private static void promise1NewObject() {
        VineLaws x = new VineLaws();
        for (int what = 0; what < 8; what++) {
            Check.due("new: count(" + what + ")", x.count(what), 0);
        }
        Check.due("new: force(0)", x.force(0), VineLaws.STATE);
        Check.due("new: leaf(0, 0)", x.leaf(0, 0), VineLaws.BAD);
        Check.due("new: status()", x.status(), 0);
        Check.due("new: fault()", x.fault(), 0);
        Check.due("new: trace(0)", x.trace(0), VineLaws.NONE);
        Check.due("new: undo()", x.undo(), VineLaws.STATE);
        Check.due("new: image(0)", x.image(0), VineLaws.STATE);
        Check.due("new: restore(1)", x.restore(1), VineLaws.STATE);
    }

    private static void promise2Row() {
        VineLaws x = Check.told(STILL);
        Check.due("row(0, 0, 2)", x.row(0, 0, 2), 2);
        Check.due("row(7, 2, 40)", x.row(7, 2, 40), 40);
        Check.due("row(3, 1, 0)", x.row(3, 1, 0), 0);
        Check.due("count(0) of three rows", x.count(0), 3);
        x.set(0, 0, 5);
        x.set(0, 1, 5);
        dueItem(x, 0, 1, 5);
        Check.due("row(0, 0, 3) again", x.row(0, 0, 3), 3);
        Check.due("count(0) with one in place of another", x.count(0), 3);
        x.hours(1);
        dueNoItem(x, 0, 0);
        dueNoItem(x, 0, 1);
        Check.due("place 2 of the new row", x.set(0, 2, 9), 9);
        // Items begin at 0: a leaf that is void tells it.
        VineLaws y = Check.told("v0,1;s1,0,0;g9,0;");
        y.hours(1);
        y.row(2, 2, 3);
        Check.due("items of a new row", y.strayed(0, 2, 0, 3), 17);
        y.set(2, 1, 4);
        y.row(2, 2, 3);
        Check.due("items of a row in place of another", y.strayed(0, 2, 0, 3), 17);
    }

    private static void promise2RefusesRow() {
        VineLaws x = new VineLaws();
        Check.due("row(-1, 0, 1)", x.row(-1, 0, 1), VineLaws.BAD);
        Check.due("row(8, 0, 1)", x.row(8, 0, 1), VineLaws.BAD);
        Check.due("row(0, -1, 1)", x.row(0, -1, 1), VineLaws.BAD);
        Check.due("row(0, 3, -1)", x.row(0, 3, -1), VineLaws.BAD);
        Check.due("row(0, 0, 41)", x.row(0, 0, 41), VineLaws.BAD);
        Check.due("row(0, 0, max)", x.row(0, 0, Integer.MAX_VALUE), VineLaws.BAD);
        Check.due("status() behind BAD", x.status(), 0);
        Check.due("row(0, 0, -1)", x.row(0, 0, -1), -1000014);
        Check.due("row(0, 0, min)", x.row(0, 0, Integer.MIN_VALUE), -1000014);
        Check.due("status() behind SIZE", x.status(), 4);
        Check.due("count(0) behind refusals", x.count(0), 0);
        x.row(0, 1, 4);
        x.row(0, 1, -4);
        Check.due("place 3 of a row that stays", x.set(0, 3, 1), 1);
    }

    private static void promise3Set() {
        VineLaws x = Check.told(STILL);
        x.row(0, 0, 2);
        x.row(1, 1, 2);
        x.row(2, 2, 2);
        Check.due("byte 127", x.set(0, 0, 127), 127);
        Check.due("byte 128", x.set(0, 0, 128), -128);
        Check.due("byte -129", x.set(0, 0, -129), 127);
        Check.due("byte 261", x.set(0, 0, 261), 5);
        dueItem(x, 0, 0, 5);
        Check.due("short 32767", x.set(1, 0, 32767), 32767);
        Check.due("short 32768", x.set(1, 0, 32768), -32768);
        Check.due("short 65541", x.set(1, 1, 65541), 5);
        dueItem(x, 1, 1, 5);
        Check.due("int 65541", x.set(2, 0, 65541), 65541);
        dueNoItem(x, 2, 0);
        Check.due("int min", x.set(2, 1, Integer.MIN_VALUE), Integer.MIN_VALUE);
        Check.due("int -1", x.set(2, 1, -1), -1);
        Check.due("byte 261 in an int row", x.set(2, 1, 261), 261);
    }

    private static void promise3RefusesSet() {
        VineLaws x = new VineLaws();
        Check.due("set(-1, 0, 1)", x.set(-1, 0, 1), VineLaws.BAD);
        Check.due("set(8, 0, 1)", x.set(8, 0, 1), VineLaws.BAD);
        Check.due("set(0, -1, 1) of none", x.set(0, -1, 1), -1000011);
        Check.due("status() behind NULL", x.status(), 1);
        x.row(0, 0, 3);
        Check.due("set(0, -1, 1)", x.set(0, -1, 1), -1000012);
        Check.due("status() behind PLACE", x.status(), 2);
        Check.due("set(0, 3, 1)", x.set(0, 3, 1), -1000012);
        Check.due("set(0, max, 1)", x.set(0, Integer.MAX_VALUE, 1), -1000012);
        Check.due("set(0, 2, 1)", x.set(0, 2, 1), 1);
        Check.due("status() behind set", x.status(), 0);
        x.row(1, 0, 0);
        Check.due("set(1, 0, 1) of no items", x.set(1, 0, 1), -1000012);
    }

    private static void promise4Copy() {
        VineLaws x = Check.told(STILL);
        Check.items(x, 0, 1, 5, 3, 4, 2);
        Check.due("copy up over itself", x.copy(0, 1, 0, 2, 3), 3);
        dueItem(x, 0, 1, 5);
        dueItem(x, 0, 2, 5);
        dueItem(x, 0, 3, 3);
        dueNoItem(x, 0, 4);
        Check.items(x, 1, 1, 2, 5, 3);
        Check.due("copy down over itself", x.copy(1, 2, 1, 1, 2), 2);
        dueItem(x, 1, 1, 5);
        dueItem(x, 1, 2, 3);
        dueItem(x, 1, 3, 3);
        Check.items(x, 2, 0, 0);
        Check.due("copy to another", x.copy(1, 1, 2, 0, 2), 2);
        dueItem(x, 2, 0, 5);
        dueItem(x, 2, 1, 3);
        dueItem(x, 1, 1, 5);
        Check.due("copy none at the ends", x.copy(1, 4, 2, 2, 0), 0);
    }

    private static void promise4RefusesCopy() {
        VineLaws x = Check.told(STILL);
        Check.items(x, 0, 5, 3);
        Check.items(x, 1, 1, 1, 1);
        x.row(2, 1, 3);
        Check.due("copy from -1", x.copy(-1, 0, 0, 0, 0), VineLaws.BAD);
        Check.due("copy to 8", x.copy(0, 0, 8, 0, 0), VineLaws.BAD);
        Check.due("copy from a missing one", x.copy(5, 0, 2, 0, 9), -1000011);
        Check.due("copy to a missing one", x.copy(2, 9, 5, 0, 0), -1000011);
        Check.due("copy between lanes", x.copy(0, 9, 2, 0, 1), -1000015);
        Check.due("status() behind STORE", x.status(), 5);
        Check.due("copy of -1 items", x.copy(0, 0, 1, 0, -1), -1000012);
        Check.due("copy from place -1", x.copy(0, -1, 1, 0, 1), -1000012);
        Check.due("copy to place -1", x.copy(0, 0, 1, -1, 1), -1000012);
        Check.due("copy beyond the first end", x.copy(0, 1, 1, 0, 2), -1000012);
        Check.due("copy beyond the second end", x.copy(0, 0, 1, 2, 2), -1000012);
        Check.due("copy none beyond an end", x.copy(0, 3, 1, 0, 0), -1000012);
        Check.due("copy of max items", x.copy(0, 1, 1, 1, Integer.MAX_VALUE), -1000012);
        Check.due("copy from place max", x.copy(0, Integer.MAX_VALUE, 1, 0, 1), -1000012);
        dueNoItem(x, 1, 0);
        dueNoItem(x, 1, 2);
        x.as(0, 5);
        Check.due("copy of all", x.copy(0, 0, 1, 1, 2), 2);
        Check.due("status() behind copy", x.status(), 0);
        dueItem(x, 1, 2, 3);
    }

    private static void promise5Drop() {
        VineLaws x = new VineLaws();
        x.row(4, 2, 6);
        Check.due("drop(4)", x.drop(4), 6);
        Check.due("count(0) behind drop", x.count(0), 0);
        Check.due("drop(4) again", x.drop(4), -1000011);
        Check.due("set(4, 0, 0) behind drop", x.set(4, 0, 0), -1000011);
        Check.due("drop(-1)", x.drop(-1), VineLaws.BAD);
        Check.due("drop(8)", x.drop(8), VineLaws.BAD);
        x.row(4, 0, 0);
        Check.due("drop(4) of no items", x.drop(4), 0);
    }

    private static void promise41Status() {
        VineLaws x = Check.told(STILL);
        Check.due("status() before a call with a row", x.status(), 0);
        x.as(0, 5);
        Check.due("status() behind KIND", x.status(), 3);
        x.row(9, 0, 0);
        x.as(0, 9);
        x.leaf(0, 0);
        x.hours(1);
        x.restore(0);
        Check.due("status() behind BAD and others", x.status(), 3);
        x.as(0, 1);
        Check.due("status() behind as", x.status(), 0);
        x.drop(1);
        Check.due("status() behind drop of none", x.status(), 1);
        x.row(1, 0, 2);
        Check.due("status() behind row", x.status(), 0);
        x.who(0, 0, 0, 2, 0, 1);
        Check.due("status() behind who of none", x.status(), 1);
        x.strayed(0, 1, 2, 1);
        Check.due("status() behind strayed beyond", x.status(), 2);
        x.who(0, 0, 0, 1, 0, 13);
        Check.due("status() behind BAD of who", x.status(), 2);
        x.who(0, 0, 0, 1, 0, 2);
        Check.due("status() behind who", x.status(), 0);
        x.set(1, 5, 5);
        x.strayed(0, 1, 0, 2);
        Check.due("status() behind strayed", x.status(), 0);
        x.set(1, 5, 5);
        x.drop(1);
        Check.due("status() behind drop", x.status(), 0);
    }

    /** Item i of a row is v, 5 or 3: a leaf that has as much left in all hours goes by it. */
    private static void dueItem(VineLaws x, int row, int i, int v) {
        Check.due("item " + i + " of row " + row + " as " + v, x.strayed(v == 5 ? 0 : 1, row, i, 1), 17);
    }

    private static void dueNoItem(VineLaws x, int row, int i) {
        Check.due("item " + i + " of row " + row + " as 5", x.strayed(0, row, i, 1), 0);
        Check.due("item " + i + " of row " + row + " as 3", x.strayed(1, row, i, 1), 0);
    }
}
