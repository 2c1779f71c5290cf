import java.util.ArrayList;
import java.util.List;
import java.util.function.Supplier;
import java.util.function.ToIntFunction;

/**
 * All promises: a refused call answers as its promise says, and nothing has happened by it. Two houses are led the
 * same way, one of them is asked for what is refused, and then both must answer alike, what they hold and what calls
 * behind it do. No house gets more than 512 calls.
 */
public final class RefusedTest {
    private static final int LEAST = Integer.MIN_VALUE;
    private static final int MOST = Integer.MAX_VALUE;
    private static final String TEXT = "lecture a;must 1 or 2 for 3 fade 1;may 3 for 4;hire gas+worth if missed<1;hire 5;end "
            + "lecture b;must 3 for 2;end";

    public static void main(String[] args) {
        Check check = new Check();
        bytesOfTheTape(check);
        textsWithFaults(check);
        hallsAndTrains(check);
        platesAndCleaning(check);
        facts(check);
        shows(check);
        questions(check);
        makings(check);
        askedOfWhatIsMade(check);
        whatIsFull(check);
        check.end();
    }

    /** Three HALLS, four TRAINS, three PLATES, five FACTS, three SHOWS, 40 bytes on the tape; two SHOWS are KEPT. */
    private static LanternHouse busy() {
        LanternHouse house = unmade();
        house.make(2);
        return house;
    }

    private static LanternHouse unmade() {
        LanternHouse house = Check.houseWith(TEXT);
        house.hall();
        house.hall();
        house.train(0, 1, 8, 4);
        house.train(1, 0, 6, 3);
        house.train(1, 2, 23, 10);
        house.train(2, 0, 0, 30);
        house.plate(1);
        house.plate(2);
        house.plate(3);
        house.cleaning(1);
        house.cancel(0, 1);
        house.look(1, 5, true);
        house.look(0, 60, false);
        house.look(2, 0, true);
        house.look(2, 41, false);
        house.show(3, 0, 0, 8, 20);
        house.show(0, 1, 0, 9, 30);
        house.show(1, 2, 1, 2, 40);
        Check.feed(house, "lecture cc;hire 1;end lecture d;end ?   ");
        return house;
    }

    /** What a house holds, asked for by calls that change nothing, and then what calls do that change it. */
    private static int[] seen(LanternHouse house) {
        List<Integer> seen = new ArrayList<>();
        counts(house, seen);
        for (int show = 0; show < 3; show++) {
            seen.add(house.told(show, 0) * 1000 + house.told(show, 1) * 100 + house.told(show, 5));
            for (int what = 0; what < 5; what++) {
                seen.add(house.cue(show, 0, what));
                seen.add(house.cue(show, 1, what));
            }
            for (int what = 4; what < 8; what++) {
                seen.add(house.showing(show, what));
            }
        }
        int known = house.count(3);
        for (int plate = 0; plate < 3; plate++) {
            seen.add(house.where(plate, 18));
            seen.add(house.where(plate, 700));
            seen.add(house.blame(plate, known));
            seen.add(house.broken(plate, 50, known));
        }
        seen.add(house.way(0, 1, 24, known));
        seen.add(house.way(1, 2, 24, known));
        seen.add(house.way(2, 0, 24, known));
        for (int set = 0; set < 8; set++) {
            seen.add(house.can(set, known));
        }
        seen.add(house.mend(known));
        seen.add(house.back(4));
        seen.add(house.read());
        seen.add(house.place());
        after(house, seen);
        return seen.stream().mapToInt(Integer::intValue).toArray();
    }

    private static void after(LanternHouse house, List<Integer> seen) {
        seen.add(house.hall());
        seen.add(house.train(1, 0, 5, 5));
        seen.add(house.plate(7));
        seen.add(house.cancel(0, 3));
        seen.add(house.look(0, 3, true));
        seen.add(house.show(9, 0, 0, 4, 4));
        seen.add(house.feed(1, 2, 3, 4, 5));
        seen.add(house.make(0));
        counts(house, seen);
    }

    private static void counts(LanternHouse house, List<Integer> seen) {
        for (int what = 0; what < 10; what++) {
            seen.add(house.count(what));
        }
        seen.add(house.place());
    }

    private static void refused(Check check, String call, Supplier<LanternHouse> led, int due, ToIntFunction<LanternHouse> asked) {
        LanternHouse house = led.get();
        check.due(call, asked.applyAsInt(house), due);
        int[] got = seen(house);
        int[] want = seen(led.get());
        check.due("answers behind " + call, got.length, want.length);
        for (int i = 0; i < want.length; i++) {
            check.due("answer " + i + " behind " + call, got[i], want[i]);
        }
    }

    private static void none(Check check, String call, ToIntFunction<LanternHouse> asked) {
        refused(check, call, RefusedTest::busy, -1, asked);
    }

    private static void bytesOfTheTape(Check check) {
        for (int n : new int[] {41, -1, 60, MOST, LEAST}) {
            none(check, "back(" + n + ")", house -> house.back(n));
        }
        refused(check, "back(0)", RefusedTest::busy, 40, house -> house.back(0));
        refused(check, "back(1) of nothing", LanternHouse::new, -1, house -> house.back(1));
    }

    /** A text with a FAULT leaves its place behind, and the tape is empty; the rest is as it was. */
    private static void textsWithFaults(Check check) {
        String[] texts = {"lecture c;hire 9", "lecture c;must 1 or 2 or 3 or 4 for 1;end", "lecture c;end lecture c;end",
            "lecture c;must 30 for 1;end", "lecture c;must 1 for 1;must 2 for 2;hire 4;end ?"};
        int[] faults = {1, 2, 3, 5, 1};
        int[] places = {16, 30, 22, 15, 47};
        for (int i = 0; i < texts.length; i++) {
            LanternHouse house = busy();
            house.back(40);
            check.due("read of " + texts[i], Check.read(house, texts[i]), faults[i]);
            check.due("place of " + texts[i], house.place(), places[i]);
            check.due("tape behind " + texts[i], house.count(9), 0);
            int[] got = seen(house);
            LanternHouse other = busy();
            other.back(40);
            int[] want = seen(other);
            for (int k = 0; k < want.length; k++) {
                boolean isPlace = k == 10;
                check.due("answer " + k + " behind " + texts[i], got[k], isPlace ? places[i] : want[k]);
            }
        }
    }

    private static void hallsAndTrains(Check check) {
        int[][] trains = {{-1, 0, 1, 1}, {3, 0, 1, 1}, {LEAST, 0, 1, 1}, {MOST, 0, 1, 1}, {0, -1, 1, 1}, {0, 3, 1, 1},
            {0, LEAST, 1, 1}, {0, MOST, 1, 1}, {0, 0, 1, 1}, {2, 2, 1, 1}, {0, 1, -1, 1}, {0, 1, 24, 1}, {0, 1, LEAST, 1},
            {0, 1, MOST, 1}, {0, 1, 1, 0}, {0, 1, 1, 31}, {0, 1, 1, -1}, {0, 1, 1, LEAST}, {0, 1, 1, MOST}};
        for (int[] t : trains) {
            none(check, "train(" + t[0] + ", " + t[1] + ", " + t[2] + ", " + t[3] + ")", house -> house.train(t[0], t[1], t[2], t[3]));
        }
        none(check, "train to itself of a hall that is none", house -> house.train(3, 3, 1, 1));
    }

    private static void platesAndCleaning(Check check) {
        for (int kind : new int[] {-1, 30, 31, 32, LEAST, MOST}) {
            none(check, "plate(" + kind + ")", house -> house.plate(kind));
        }
        for (int h : new int[] {-1, 25, LEAST, MOST}) {
            refused(check, "cleaning(" + h + ")", RefusedTest::busy, 0, house -> house.cleaning(h) ? 1 : 0);
        }
        refused(check, "cleaning(1) again", RefusedTest::busy, 1, house -> house.cleaning(1) ? 1 : 0);
    }

    private static void facts(Check check) {
        int[][] cancels = {{-1, 0}, {4, 0}, {16, 0}, {LEAST, 0}, {MOST, 0}, {0, -1}, {0, 41}, {0, 64}, {0, LEAST}, {0, MOST}};
        for (int[] c : cancels) {
            none(check, "cancel(" + c[0] + ", " + c[1] + ")", house -> house.cancel(c[0], c[1]));
        }
        int[][] looks = {{-1, 5}, {3, 5}, {20, 5}, {32, 5}, {LEAST, 5}, {MOST, 5}, {0, -1}, {0, 701}, {0, LEAST}, {0, MOST}};
        for (int[] l : looks) {
            none(check, "look(" + l[0] + ", " + l[1] + ", true)", house -> house.look(l[0], l[1], true));
            none(check, "look(" + l[0] + ", " + l[1] + ", false)", house -> house.look(l[0], l[1], false));
        }
    }

    private static void shows(Check check) {
        int[][] shows = {{-1, 0, 0, 1, 1}, {28, 0, 0, 1, 1}, {LEAST, 0, 0, 1, 1}, {MOST, 0, 0, 1, 1}, {5, -1, 0, 1, 1},
            {5, 3, 0, 1, 1}, {5, LEAST, 0, 1, 1}, {5, MOST, 0, 1, 1}, {5, 0, -1, 1, 1}, {5, 0, 2, 1, 1}, {5, 0, LEAST, 1, 1},
            {5, 0, MOST, 1, 1}, {5, 0, 0, -1, 1}, {5, 0, 0, 501, 1}, {5, 0, 0, LEAST, 1}, {5, 0, 0, MOST, 1},
            {5, 0, 0, 1, -1}, {5, 0, 0, 1, 1001}, {5, 0, 0, 1, LEAST}, {5, 0, 0, 1, MOST}, {3, 0, 0, 8, 20},
            {3, 0, 1, 500, 1000}, {0, 1, 1, 1, 1}, {1, 2, 0, 1, 1}};
        for (int[] s : shows) {
            none(check, "show(" + s[0] + ", " + s[1] + ", " + s[2] + ", " + s[3] + ", " + s[4] + ")",
                    house -> house.show(s[0], s[1], s[2], s[3], s[4]));
        }
        refused(check, "show without lectures", LanternHouse::new, -1, house -> house.show(0, 0, 0, 0, 0));
    }

    private static void questions(Check check) {
        int[][] ways = {{-1, 0, 0, 0}, {3, 0, 0, 0}, {0, -1, 0, 0}, {0, 3, 0, 0}, {0, 1, -1, 0}, {0, 1, 701, 0}, {0, 1, 0, -1},
            {0, 1, 0, 6}, {LEAST, 0, 0, 0}, {MOST, 0, 0, 0}, {0, LEAST, 0, 0}, {0, MOST, 0, 0}, {0, 1, LEAST, 0},
            {0, 1, MOST, 0}, {0, 1, 0, LEAST}, {0, 1, 0, MOST}, {3, 3, 0, 0}, {-1, -1, 0, 0}, {1, 1, 701, 0}, {1, 1, -1, 0},
            {1, 1, 0, 6}, {1, 1, 0, -1}};
        for (int[] w : ways) {
            none(check, "way(" + w[0] + ", " + w[1] + ", " + w[2] + ", " + w[3] + ")", house -> house.way(w[0], w[1], w[2], w[3]));
        }
        int[][] breaks = {{-1, 0, 0}, {3, 0, 0}, {32, 60, 5}, {0, -1, 0}, {0, 701, 0}, {0, 0, -1}, {0, 0, 6}, {LEAST, 0, 0},
            {MOST, 0, 0}, {0, LEAST, 0}, {0, MOST, 0}, {0, 0, LEAST}, {0, 0, MOST}};
        for (int[] b : breaks) {
            none(check, "broken(" + b[0] + ", " + b[1] + ", " + b[2] + ")", house -> house.broken(b[0], b[1], b[2]));
        }
        int[][] sets = {{-1, 0}, {8, 0}, {9, 0}, {256, 0}, {LEAST, 0}, {MOST, 0}, {0, -1}, {0, 6}, {0, LEAST}, {0, MOST}};
        for (int[] s : sets) {
            none(check, "can(" + s[0] + ", " + s[1] + ")", house -> house.can(s[0], s[1]));
            refused(check, "can(" + s[0] + ", " + s[1] + "), unmade", RefusedTest::unmade, -1, house -> house.can(s[0], s[1]));
        }
    }

    private static void makings(Check check) {
        for (int n : new int[] {-1, 6, 300, LEAST, MOST}) {
            none(check, "make(" + n + ")", house -> house.make(n));
            none(check, "mend(" + n + ")", house -> house.mend(n));
            refused(check, "make(" + n + "), unmade", RefusedTest::unmade, -1, house -> house.make(n));
        }
        for (int n = -1; n <= 6; n++) {
            int known = n;
            refused(check, "mend(" + n + "), unmade", RefusedTest::unmade, -1, house -> house.mend(known));
        }
        refused(check, "mend(0), new", LanternHouse::new, -1, house -> house.mend(0));
    }

    private static void askedOfWhatIsMade(Check check) {
        for (int show : new int[] {-1, 3, 8, 32, 33, LEAST, MOST}) {
            none(check, "told(" + show + ", 5)", house -> house.told(show, 5));
            none(check, "cue(" + show + ", 0, 3)", house -> house.cue(show, 0, 3));
            none(check, "showing(" + show + ", 0)", house -> house.showing(show, 0));
        }
        for (int what = 0; what < 8; what++) {
            int asked = what;
            none(check, "showing(1, " + what + ") of what is not kept", house -> house.showing(1, asked));
            none(check, "cue(1, 0, " + what + ") of what is not kept", house -> house.cue(1, 0, asked));
        }
        for (int what : new int[] {-1, 6, LEAST, MOST}) {
            none(check, "told(1, " + what + ")", house -> house.told(1, what));
        }
        for (int what : new int[] {-1, 5, LEAST, MOST}) {
            none(check, "cue(0, 0, " + what + ")", house -> house.cue(0, 0, what));
        }
        for (int i : new int[] {-1, 2, 8, LEAST, MOST}) {
            none(check, "cue(0, " + i + ", 3)", house -> house.cue(0, i, 3));
        }
        for (int what : new int[] {-1, 8, LEAST, MOST}) {
            none(check, "showing(0, " + what + ")", house -> house.showing(0, what));
        }
        for (int what : new int[] {-1, 10, LEAST, MOST}) {
            none(check, "count(" + what + ")", house -> house.count(what));
        }
        int[][] blames = {{-1, 5}, {3, 5}, {32, 5}, {LEAST, 5}, {MOST, 5}, {0, -1}, {0, 6}, {0, LEAST}, {0, MOST}, {0, 2}, {1, 5}};
        for (int[] b : blames) {
            none(check, "blame(" + b[0] + ", " + b[1] + ")", house -> house.blame(b[0], b[1]));
        }
        int[][] wheres = {{-1, 5}, {3, 5}, {32, 5}, {LEAST, 5}, {MOST, 5}, {0, -1}, {0, 701}, {0, LEAST}, {0, MOST}};
        for (int[] w : wheres) {
            none(check, "where(" + w[0] + ", " + w[1] + ")", house -> house.where(w[0], w[1]));
        }
        refused(check, "blame, unmade", RefusedTest::unmade, -1, house -> house.blame(0, 5));
        refused(check, "where, unmade", RefusedTest::unmade, -1, house -> house.where(0, 5));
        refused(check, "cue, unmade", RefusedTest::unmade, -1, house -> house.cue(0, 0, 3));
        refused(check, "showing, unmade", RefusedTest::unmade, -1, house -> house.showing(0, 0));
    }

    private static LanternHouse after(int calls, ToIntFunction<LanternHouse> call) {
        LanternHouse house = busy();
        for (int i = 0; i < calls; i++) {
            call.applyAsInt(house);
        }
        return house;
    }

    private static void whatIsFull(Check check) {
        refused(check, "a 7th hall", () -> after(3, LanternHouse::hall), -1, LanternHouse::hall);
        refused(check, "a 17th train", () -> after(12, h -> h.train(0, 2, 1, 1)), -1, h -> h.train(0, 2, 1, 1));
        refused(check, "a 21st plate", () -> after(17, h -> h.plate(3)), -1, h -> h.plate(3));
        refused(check, "a 301st fact, a look", () -> after(295, h -> h.look(0, 9, true)), -1, h -> h.look(0, 9, false));
        refused(check, "a 301st fact, a cancel", () -> after(295, h -> h.cancel(1, 9)), -1, h -> h.cancel(1, 1));
        refused(check, "a 9th show", () -> after(5, h -> h.show(20 + h.count(5), 1, 1, 0, 0)), -1, h -> h.show(9, 0, 1, 0, 0));
        refused(check, "a tape of more than 3,000", () -> after(148, h -> h.feed(1, 2, 3, 4, 5)), -1, h -> h.feed(6, 7, 8, 9, 10));
        refused(check, "a tape of 2,981 and 20", () -> {
            LanternHouse house = after(148, h -> h.feed(1, 2, 3, 4, 5));
            house.back(19);
            return house;
        }, -1, h -> h.feed(6, 7, 8, 9, 10));
    }
}
