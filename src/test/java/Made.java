/** Objects on which the edges are tried: in each state that a call may find. */
final class Made {
    /** Three leaves (salted, hairy, thorny), two goats; SALT is 3, GROWS 2. */
    private static final String RICH = "v2,3;a6,3,4;h4,0,5;t9,0,8;g4,0;g9,3;";

    private Made() {
    }

    static Run empty() {
        return new Run();
    }

    /** Of everything there is something: acts, images, rows, a trace, a fault, a finding (3), bytes on the tape. */
    static Run rich() {
        Run run = Run.told(RICH).does("image(0)", "hours(1)", "salt(1)", "drive(1, 5)", "image(1)", "hang(0, 2)");
        run.row(0, 0, 4, 3, 9).row(5, 1, 4, 2).row(7, 2).does("ask(0, 0)");
        run.read("v10");
        return run.does("as(1, 4)").feed("v1");
    }

    /** Without a square, but with a row, an empty one, a finding (2) and a byte on the tape. */
    static Run bare() {
        return new Run().row(0, 0, 1, 2).row(1, 0).does("set(0, 2, 0)").feed("v");
    }

    /** Leaf 0 is void, leaf 1 whole. */
    static Run voided() {
        return Run.told("v1,1;h1,0,9;h9,0,3;g1,0;").does("hours(1)").row(0, 0, 0, 9);
    }

    /** In an hour of 0 to 999, with nothing eaten; leaf 1 is a thorny one. */
    static Run at(int hour) {
        Run run = Run.told("v0,1;s20,0,3;t5,0,9;g0,0;");
        for (int i = 24; i <= hour; i += 24) {
            run.does("hours(24)");
        }
        return hour % 24 == 0 ? run : run.does("hours(" + hour % 24 + ")");
    }

    /** The one goat comes back behind so many hours; from then on it bites one of the leaf's size in each. */
    static Run bittenBehind(int hours, int size) {
        return Run.told("v0,1;h" + size + ",0,0;g40,0;").does("drive(0, " + hours + ")");
    }
}
