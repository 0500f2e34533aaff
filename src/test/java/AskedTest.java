/** Promises 36 to 40, and the constants. */
public final class AskedTest {
    private static final String KINDS = "v1,1;s4,0,1;a5,9,1;h6,9,1;b7,9,1;t8,9,1;g5,0;g5,0;";

    public static void main(String[] args) {
        constants();
        promise36Kind();
        promise37As();
        promise38Ask();
        promise38AskOfWhatIsLeft();
        promise38RefusesAsk();
        promise39Trace();
        promise40Count();
        Check.end();
    }

    private static void constants() {
        Check.due("NONE", VineLaws.NONE, -1000000);
        Check.due("BAD", VineLaws.BAD, -1000001);
        Check.due("STATE", VineLaws.STATE, -1000002);
        Check.due("FULL", VineLaws.FULL, -1000003);
    }

    private static void promise36Kind() {
        VineLaws x = Check.told(KINDS);
        for (int leaf = 0; leaf < 5; leaf++) {
            Check.due("kind(" + leaf + ")", x.kind(leaf), leaf + 1);
        }
        Check.due("kind(5)", x.kind(5), VineLaws.BAD);
        Check.due("kind(-1)", x.kind(-1), VineLaws.BAD);
        Check.due("kind(0) without a square", new VineLaws().kind(0), VineLaws.BAD);
    }

    private static void promise37As() {
        VineLaws x = Check.told(KINDS);
        int[] kinds = {1 + 2, 1 + 2 + 4, 1 + 2 + 8, 1 + 16, 1 + 16 + 32};
        for (int leaf = 0; leaf < 5; leaf++) {
            for (int kind = 0; kind <= 5; kind++) {
                boolean is = (kinds[leaf] >> kind & 1) == 1;
                Check.due("as(" + leaf + ", " + kind + ")", x.as(leaf, kind), is ? leaf : -1000013);
                Check.due("status() behind as(" + leaf + ", " + kind + ")", x.status(), is ? 0 : 3);
            }
        }
        Check.due("as(0, 6)", x.as(0, 6), VineLaws.BAD);
        Check.due("as(0, -1)", x.as(0, -1), VineLaws.BAD);
        Check.due("as(5, 0)", x.as(5, 0), VineLaws.BAD);
        Check.due("as(-1, 0)", x.as(-1, 0), VineLaws.BAD);
    }

    private static void promise38Ask() {
        VineLaws x = Check.told(KINDS);
        dueAsk(x, 0, 0, 8, 11, 10, 21, 20);
        dueAsk(x, 0, 1, 4, 21, 20);
        dueAsk(x, 1, 0, -17, 12, 11, 10, 24, 21, 20);
        dueAsk(x, 1, 1, 12, 24, 21, 20);
        dueAsk(x, 2, 0, -986, 11, 10, 22, 21, 20);
        dueAsk(x, 2, 1, -992, 22, 21, 20);
        dueAsk(x, 3, 0, -93, 13, 10);
        dueAsk(x, 3, 1, 96, 23, 20, 13, 10);
        dueAsk(x, 4, 0, -184, 14, 13, 10);
        dueAsk(x, 4, 1, 188, 23, 20, 14, 13, 10);
    }

    private static void promise38AskOfWhatIsLeft() {
        VineLaws x = Check.told(KINDS);
        x.hang(1, 0);
        // Both goats bite leaf 1, liked by 2: one is left of it.
        x.hours(1);
        dueAsk(x, 1, 1, 4, 24, 21, 20);
        dueAsk(x, 1, 0, -9, 12, 11, 10, 24, 21, 20);
        x.hang(4, 0);
        dueAsk(x, 4, 0, -184, 14, 13, 10);
    }

    private static void promise38RefusesAsk() {
        VineLaws x = Check.told(KINDS);
        x.ask(3, 0);
        Check.due("ask(5, 0)", x.ask(5, 0), VineLaws.BAD);
        Check.due("ask(-1, 0)", x.ask(-1, 0), VineLaws.BAD);
        Check.due("ask(0, 2)", x.ask(0, 2), VineLaws.BAD);
        Check.due("ask(0, -1)", x.ask(0, -1), VineLaws.BAD);
        Check.due("trace(0) stays", x.trace(0), 13);
        Check.due("trace(1) stays", x.trace(1), 10);
        Check.due("trace(2) stays", x.trace(2), VineLaws.NONE);
    }

    private static void promise39Trace() {
        VineLaws x = Check.told(KINDS);
        Check.due("trace(0) before an ask", x.trace(0), VineLaws.NONE);
        x.ask(1, 0);
        x.ask(0, 1);
        Check.due("trace(0)", x.trace(0), 21);
        Check.due("trace(1)", x.trace(1), 20);
        Check.due("trace(2), of the one before", x.trace(2), VineLaws.NONE);
        Check.due("trace(-1)", x.trace(-1), VineLaws.NONE);
        Check.due("trace(16)", x.trace(16), VineLaws.NONE);
        Check.due("trace(max)", x.trace(Integer.MAX_VALUE), VineLaws.NONE);
    }

    private static void promise40Count() {
        VineLaws x = Check.told(KINDS);
        x.row(3, 0, 1);
        x.row(5, 0, 1);
        x.hours(1);
        x.fodder(0);
        x.feed('v');
        int[] counts = {2, 5, 2, 1, 30, 26, 2, 1};
        for (int what = 0; what < 8; what++) {
            Check.due("count(" + what + ")", x.count(what), counts[what]);
        }
        Check.due("count(8)", x.count(8), VineLaws.BAD);
        Check.due("count(-1)", x.count(-1), VineLaws.BAD);
    }

    private static void dueAsk(VineLaws x, int leaf, int what, int gives, int... bodies) {
        Check.due("ask(" + leaf + ", " + what + ")", x.ask(leaf, what), gives);
        for (int i = 0; i < bodies.length; i++) {
            Check.due("trace(" + i + ") of ask(" + leaf + ", " + what + ")", x.trace(i), bodies[i]);
        }
        Check.due("end of the trace of ask(" + leaf + ", " + what + ")", x.trace(bodies.length), VineLaws.NONE);
    }
}
