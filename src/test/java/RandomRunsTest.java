import java.util.Arrays;

/** Runs of drawn calls, each of at most 512 on a new object, held against Model; always the same runs. */
public final class RandomRunsTest {
    private static final String[] CALLS = {
        "row 3", "set 3", "copy 5", "drop 1", "feed 1", "square 0", "fault 0", "undo 0", "hours 1", "hang 2",
        "salt 1", "transcribe 1", "drive 2", "fodder 1", "leaf 2", "goat 2", "ahead 2", "force 1", "emptied 1",
        "eats 2", "guilt 2", "gap 1", "hangs 3", "drives 3", "harm 2", "bait 3", "safeHeight 2", "who 6",
        "strayed 4", "rivals 1", "wind 3", "drawn 3", "image 1", "restore 1", "kind 1", "as 2", "ask 2",
        "trace 1", "count 1", "status 0"};

    private final VineLaws x = new VineLaws();
    private final Model model = new Model();
    private long seed;
    private int calls;

    private RandomRunsTest(int run) {
        seed = 7919L * run + 17;
    }

    public static void main(String[] args) {
        int runs = args.length > 0 ? Integer.parseInt(args[0]) : 400;
        for (int run = 0; run < runs; run++) {
            new RandomRunsTest(run).runCalls(run);
        }
        Check.end();
    }

    private void runCalls(int run) {
        while (calls < 500) {
            if (draw(14) == 0 || calls == 0 && run % 4 != 0) {
                feedText(text());
            } else if (draw(7) == 0) {
                lookFromARow();
            } else {
                String[] call = CALLS[draw(CALLS.length)].split(" ");
                both(call[0], arguments(call[0], Integer.parseInt(call[1])));
            }
        }
    }

    private void feedText(String text) {
        if (calls + text.length() > 500) {
            calls = 500;
            return;
        }
        if (draw(20) != 0) {
            both("square");
        }
        for (int i = 0; i < text.length(); i++) {
            both("feed", text.charAt(i));
        }
        both("square");
        both("fault");
    }

    /** Writes what will be left of a leaf, mostly so, and asks by what it may come. */
    private void lookFromARow() {
        int row = draw(8);
        int n = 1 + draw(4);
        int leaf = draw(7);
        both("row", row, draw(3), n + draw(3));
        for (int i = 0; i < n; i++) {
            int left = x.ahead(leaf, i + 1);
            both("set", row, i, draw(8) == 0 ? left - 1 : left);
        }
        both("who", draw(7), draw(3), leaf, row, 0, n);
        both("strayed", leaf, row, 0, n);
    }

    private int[] arguments(String name, int many) {
        int[] drawn = new int[many];
        for (int i = 0; i < many; i++) {
            drawn[i] = argument(name, i);
        }
        return drawn;
    }

    private int argument(String name, int i) {
        if (draw(60) == 0) {
            return new int[] {-1, Integer.MIN_VALUE, Integer.MAX_VALUE, 256, 1000000, 61, 41}[draw(7)];
        }
        switch (name + i) {
            case "feed0": return draw(257) - 1;
            case "set2": return draw(3) == 0 ? draw(100000) - 50000 : draw(20);
            case "row2": return draw(43) - 1;
            case "hours0": return draw(6) == 0 ? draw(26) : 1 + draw(3);
            case "hang1": case "goat1": case "leaf1": return draw(11);
            case "drive1": case "ahead1": case "eats1": case "guilt1": case "safeHeight1":
                return draw(4) == 0 ? draw(62) : draw(10);
            case "force0": case "harm0": case "drawn0": return draw(62);
            case "gap0": case "hangs0": case "drives0": return draw(3) == 0 ? draw(129) : 1 << draw(7) | 1 << draw(7);
            case "hangs1": case "drives1": case "bait1": return draw(3) == 0 ? draw(32) : draw(12);
            case "wind0": return draw(9);
            case "wind1": return draw(12);
            case "drawn1": return draw(50) == 0 ? draw(2) * 1000000 : draw(1000000);
            case "as1": return draw(7);
            case "trace0": case "count0": return draw(9);
            case "copy1": case "copy3": case "copy4": case "who4": case "strayed2": case "set1": return draw(9);
            case "who5": case "strayed3": return draw(14);
            case "row0": case "set0": case "drop0": case "copy0": case "copy2": case "who3": case "strayed1":
                return draw(3) == 0 ? draw(8) : draw(2);
            case "row1": case "who1": case "image0": case "restore0": case "ask1": case "rivals0": case "harm1":
            case "hangs2": case "drives2": case "bait2": case "wind2": case "drawn2":
                return draw(20) == 0 ? draw(4) : draw(2);
            default: return draw(10) == 0 ? draw(9) : draw(5);
        }
    }

    private String text() {
        StringBuilder text = new StringBuilder();
        text.append('v').append(number(0, draw(2) == 0 ? 3 : 9)).append(',').append(number(1, 9)).append(';');
        int leaves = draw(12) == 0 ? draw(9) : 1 + draw(7);
        for (int i = 0; i < leaves; i++) {
            text.append("sahbt".charAt(draw(5))).append(number(1, draw(2) == 0 ? 20 : 5)).append(',');
            text.append(number(0, 9)).append(',').append(number(0, 9)).append(';');
        }
        int goats = draw(12) == 0 ? draw(6) : 1 + draw(4);
        for (int i = 0; i < goats; i++) {
            text.append('g').append(number(0, 40)).append(',').append(number(2, 9)).append(';');
        }
        if (draw(5) == 0) {
            char[] strange = {'v', 'g', 's', 'q', ',', ';', '7', '0', ' ', 'A', (char) 233, (char) 0};
            int at = draw(text.length());
            if (draw(3) == 0) {
                text.setLength(at);
            } else if (draw(2) == 0) {
                text.setCharAt(at, strange[draw(strange.length)]);
            } else {
                text.insert(at, strange[draw(strange.length)]);
            }
        }
        return text.toString();
    }

    private String number(int least, int most) {
        int number = draw(80) == 0 ? draw(100) : least + draw(most - least + 1);
        return number < 10 && draw(30) == 0 ? "0" + number : "" + number;
    }

    private int draw(int many) {
        seed = (seed * 6364136223846793005L + 1442695040888963407L);
        return (int) ((seed >>> 33) % many);
    }

    private void both(String name, int... a) {
        if (calls >= 500) {
            return;
        }
        calls++;
        Check.due("call " + calls + " " + name + Arrays.toString(a), call(name, a), model.call(name, a));
    }

    private long call(String name, int[] a) {
        switch (name) {
            case "row": return x.row(a[0], a[1], a[2]);
            case "set": return x.set(a[0], a[1], a[2]);
            case "copy": return x.copy(a[0], a[1], a[2], a[3], a[4]);
            case "drop": return x.drop(a[0]);
            case "feed": return x.feed(a[0]);
            case "square": return x.square();
            case "fault": return x.fault();
            case "undo": return x.undo();
            case "hours": return x.hours(a[0]);
            case "hang": return x.hang(a[0], a[1]);
            case "salt": return x.salt(a[0]);
            case "transcribe": return x.transcribe(a[0]);
            case "drive": return x.drive(a[0], a[1]);
            case "fodder": return x.fodder(a[0]);
            case "leaf": return x.leaf(a[0], a[1]);
            case "goat": return x.goat(a[0], a[1]);
            case "ahead": return x.ahead(a[0], a[1]);
            case "force": return x.force(a[0]);
            case "emptied": return x.emptied(a[0]);
            case "eats": return x.eats(a[0], a[1]);
            case "guilt": return x.guilt(a[0], a[1]);
            case "gap": return x.gap(a[0]);
            case "hangs": return x.hangs(a[0], a[1], a[2]);
            case "drives": return x.drives(a[0], a[1], a[2]);
            case "harm": return x.harm(a[0], a[1]);
            case "bait": return x.bait(a[0], a[1], a[2]);
            case "safeHeight": return x.safeHeight(a[0], a[1]);
            case "who": return x.who(a[0], a[1], a[2], a[3], a[4], a[5]);
            case "strayed": return x.strayed(a[0], a[1], a[2], a[3]);
            case "rivals": return x.rivals(a[0]);
            case "wind": return x.wind(a[0], a[1], a[2]);
            case "drawn": return x.drawn(a[0], a[1], a[2]);
            case "image": return x.image(a[0]);
            case "restore": return x.restore(a[0]);
            case "kind": return x.kind(a[0]);
            case "as": return x.as(a[0], a[1]);
            case "ask": return x.ask(a[0], a[1]);
            case "trace": return x.trace(a[0]);
            case "count": return x.count(a[0]);
            default: return x.status();
        }
    }
}
