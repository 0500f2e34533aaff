import java.util.ArrayList;
import java.util.List;

/**
 * All that can be seen of an object, ends with the object spent: it undoes, restores and overwrites to look behind
 * what stands. Two objects that look alike are in the same state (but for acts that lie deeper than three).
 */
final class Look {
    private static final int DEEPEST = 3;
    private static final long WIDE = 40000;

    private final Run run;
    private final List<String> seen = new ArrayList<>();

    private Look(Run run) {
        this.run = run;
    }

    static List<String> of(Run run) {
        Look look = new Look(run);
        look.seeSquare();
        look.seeNotes();
        look.seeRows();
        look.seeBehind();
        look.seeTape();
        return look.seen;
    }

    private long see(String call) {
        long answer = run.call(call);
        seen.add(call + " " + answer);
        return answer;
    }

    private void seeNotes() {
        see("fault()");
        for (int i = 0; i < 7; i++) {
            see("trace(" + i + ")");
        }
    }

    private void seeSquare() {
        for (int what = 1; what < 8; what++) {
            see("count(" + what + ")");
        }
        for (int leaf = 0; see("kind(" + leaf + ")") != Run.BAD; leaf++) {
            for (int what = 0; what < 6; what++) {
                see("leaf(" + leaf + ", " + what + ")");
            }
        }
        for (int goat = 0; see("goat(" + goat + ", 0)") != Run.BAD; goat++) {
            for (int what = 1; what < 4; what++) {
                see("goat(" + goat + ", " + what + ")");
            }
        }
    }

    /** Items by the leaves that have as much left, then lanes and lengths by a number that only ints hold. */
    private void seeRows() {
        long leaves = run.call("count(1)");
        see("count(0)");
        for (int row = 0; row < 8; row++) {
            boolean there = true;
            for (int i = 0; there; i++) {
                for (int leaf = 0; leaf < leaves; leaf++) {
                    there &= see("strayed(" + leaf + ", " + row + ", " + i + ", 1)") > Run.NONE;
                    if (!there) {
                        break;
                    }
                }
                there &= see("set(" + row + ", " + i + ", " + WIDE + ")") > Run.NONE;
            }
        }
    }

    private void seeBehind() {
        for (int i = 0; i < DEEPEST && see("undo()") != Run.STATE; i++) {
            seeSquare();
        }
        for (int image = 0; image < 2; image++) {
            if (see("restore(" + image + ")") == 1) {
                seeSquare();
            }
        }
        see("hours(2)");
        see("goat(0, 0)");
        see("goat(1, 0)");
    }

    private void seeTape() {
        see("square()");
        see("fault()");
    }
}
