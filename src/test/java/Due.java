/** Counts and prints the calls whose answer is not the one that is due. */
final class Due {
    private static int asked;
    private static int wrong;

    private Due() {
    }

    static void due(String call, long got, long want) {
        asked++;
        if (got != want) {
            wrong++;
            if (wrong <= 50) {
                System.out.println(call + " answered " + got + ", due is " + want);
            }
        }
    }

    static void due(String call, boolean got, boolean want) {
        due(call, got ? 1 : 0, want ? 1 : 0);
    }

    static void finish() {
        System.out.println(asked + " answers, " + wrong + " not as due");
        if (wrong != 0) {
            System.exit(1);
        }
    }

    /** Feeds a text, twenty bytes a call; answers what the last call did. */
    static int feed(CocoaYard yard, String text) {
        int answer = CocoaYard.NONE;
        for (int at = 0; at < text.length(); at += 20) {
            int[] five = new int[5];
            for (int i = 0; i < 20 && at + i < text.length(); i++) {
                five[i / 4] |= (text.charAt(at + i) & 255) << (24 - 8 * (i % 4));
            }
            answer = yard.feed(five[0], five[1], five[2], five[3], five[4]);
        }
        return answer;
    }
}
