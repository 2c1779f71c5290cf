/** What the tests share: counting wrong answers, and texts put on a tape. */
final class Check {
    private int wrong = 0;
    private int done = 0;

    void due(String call, long got, long want) {
        done++;
        if (got != want) {
            wrong++;
            System.out.println(call + " answered " + got + ", due is " + want);
        }
    }

    void due(String call, boolean got, boolean want) {
        due(call, got ? 1 : 0, want ? 1 : 0);
    }

    void end() {
        System.out.println(done + " answers, " + wrong + " wrong");
        if (wrong != 0) {
            System.exit(1);
        }
    }

    /** Puts a text of at most 3,000 bytes on an empty tape. */
    static void feed(LanternHouse house, String text) {
        int[] words = new int[5];
        for (int from = 0; from < text.length(); from += 20) {
            for (int i = 0; i < 20; i++) {
                int c = from + i < text.length() ? text.charAt(from + i) : ' ';
                words[i / 4] = words[i / 4] << 8 | c;
            }
            house.feed(words[0], words[1], words[2], words[3], words[4]);
        }
        house.back((20 - text.length() % 20) % 20);
    }

    static int read(LanternHouse house, String text) {
        feed(house, text);
        return house.read();
    }

    static LanternHouse houseWith(String text) {
        LanternHouse house = new LanternHouse();
        if (read(house, text) != 0) {
            throw new IllegalStateException("a test's text has a fault: " + text);
        }
        return house;
    }

    static String times(int n, String part) {
        return part.repeat(n);
    }
}
