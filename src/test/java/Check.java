/** What the tests share: a tally of wrong answers, and texts as feeds. */
final class Check {
    private static int wrong = 0;
    private static int seen = 0;

    private Check() {
    }

    static void due(String what, long got, long want) {
        seen++;
        if (got != want) {
            wrong++;
            if (wrong <= 50) {
                System.out.println(what + " answered " + got + ", due is " + want);
            }
        }
    }

    static void due(String what, boolean got, boolean want) {
        due(what, got ? 1 : 0, want ? 1 : 0);
    }

    static boolean anyWrong() {
        return wrong > 0;
    }

    /** Feeds a text of signs 1 to 255, 24 at a call; the answer of the last call. */
    static int feed(WaterCarts x, String text) {
        int answer = x.count(9);
        for (int at = 0; at < text.length(); at += 24) {
            answer = x.feed(eight(text, at), eight(text, at + 8), eight(text, at + 16));
        }
        return answer;
    }

    static int text(WaterCarts x, String text) {
        feed(x, text);
        return x.text();
    }

    static long eight(String text, int from) {
        long bytes = 0;
        for (int i = from; i < from + 8; i++) {
            bytes = bytes << 8 | (i < text.length() ? text.charAt(i) & 255 : 0);
        }
        return bytes;
    }

    static void end() {
        System.out.println(seen + " answers looked at, " + wrong + " wrong");
        if (wrong != 0) {
            System.exit(1);
        }
    }
}
