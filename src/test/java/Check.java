/** What the tests share: answers that are due, and squares told by a text. */
final class Check {
    private static int wrong;
    private static volatile String about = "";

    private Check() {
    }

    static void due(String what, long got, long want) {
        if (got != want) {
            wrong++;
            System.out.println(about + what + " answered " + got + ", due is " + want);
        }
    }

    /** What the answers to come are about: it stands ahead of each that is wrong. */
    static void about(String words) {
        about = words;
    }

    static void feed(VineLaws x, String text) {
        for (int i = 0; i < text.length(); i++) {
            x.feed(text.charAt(i));
        }
    }

    /** What square() answers of a text. */
    static int read(VineLaws x, String text) {
        feed(x, text);
        return x.square();
    }

    static VineLaws told(String text) {
        VineLaws x = new VineLaws();
        int leaves = read(x, text);
        if (leaves < 1) {
            due("square() of " + text, leaves, 1);
        }
        return x;
    }

    /** A row of bytes with these items. */
    static void items(VineLaws x, int row, int... items) {
        x.row(row, 0, items.length);
        for (int i = 0; i < items.length; i++) {
            x.set(row, i, items[i]);
        }
    }

    static void end() {
        System.out.println(wrong == 0 ? "all answers are as due" : wrong + " answers are not as due");
        if (wrong != 0) {
            System.exit(1);
        }
    }
}
