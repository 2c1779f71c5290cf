/** Promises 21 (blame) and 22 (where). */
public final class BlameTest {
    public static void main(String[] args) {
        Check check = new Check();
        blame(check);
        firstAndLastHours(check);
        looksOfOneHour(check);
        waysAreThoseOfTheMaking(check);
        wrongBlames(check);
        where(check);
        wrongWheres(check);
        check.end();
    }

    /** Plate 0: to hall 1 by hour 12, shown there at 20 and at 44, back by hour 57, shown at 92. */
    private static LanternHouse travelled() {
        LanternHouse house = Check.houseWith("lecture a;must 1 for 1;end");
        house.hall();
        house.plate(1);
        house.plate(2);
        house.train(0, 1, 8, 4);
        house.train(1, 0, 6, 3);
        house.show(3, 0, 0, 9, 5);
        house.show(0, 1, 0, 9, 5);
        house.show(1, 1, 0, 9, 5);
        house.make(0);
        return house;
    }

    private static void blame(Check check) {
        int[][] rows = {
            // behind, up to (of the looks; -1: no whole one), due
            {-1, 11, -2}, {-1, 12, 101}, {-1, 19, 101}, {-1, 20, -3}, {0, 12, 101}, {11, 12, 101}, {12, 19, -2},
            {12, 20, 1}, {19, 20, 1}, {20, 43, -2}, {20, 44, 2}, {12, 44, -3}, {44, 56, -2}, {44, 57, 100},
            {56, 57, 100}, {57, 91, -2}, {57, 92, 0}, {91, 92, 0}, {92, 700, -2}, {44, 92, -3}, {-1, 700, -3},
            {5, 5, -2}, {12, 12, -2},
        };
        for (int[] row : rows) {
            LanternHouse house = travelled();
            if (row[0] >= 0) {
                house.look(0, row[0], true);
            }
            house.look(0, row[1], false);
            check.due("blame from " + row[0] + " to " + row[1], house.blame(0, house.count(3)), row[2]);
        }
    }

    /** The first HOUR at which a way can end is 1, the last SHOW is at 668; the 8th SHOW is 7, the way to it 107. */
    private static void firstAndLastHours(Check check) {
        int[][] rows = {
            // the whole look's HOUR (-1: none), the broken one's, due
            {-1, 0, -2}, {-1, 1, 107}, {0, 1, 107}, {0, 0, -2}, {1, 1, -2}, {1, 19, -2}, {1, 20, 7}, {19, 20, 7}, {20, 20, -2},
            {20, 644, -2}, {20, 645, -2}, {20, 667, -2}, {20, 668, 0}, {667, 668, 0}, {668, 668, -2}, {668, 700, -2},
            {667, 700, 0}, {699, 700, -2}, {700, 700, -2}, {-1, 700, -3}, {0, 20, -3}, {19, 668, -3},
        };
        for (int[] row : rows) {
            LanternHouse house = Check.houseWith("lecture a;must 1 for 1;end lecture b;end");
            house.hall();
            house.plate(1);
            house.train(0, 1, 0, 1);
            house.show(27, 1, 0, 0, 1);
            for (int i = 1; i < 7; i++) {
                house.show(i, 0, 1, 0, 1);
            }
            house.show(0, 1, 0, 0, 1);
            check.due("make", house.make(0), 8);
            if (row[0] >= 0) {
                house.look(0, row[0], true);
            }
            house.look(0, row[1], false);
            check.due("blame behind " + row[0] + " up to " + row[1], house.blame(0, house.count(3)), row[2]);
            check.due("as nothing is known", house.blame(0, 0), -1);
        }
    }

    private static void looksOfOneHour(Check check) {
        LanternHouse house = travelled();
        house.look(0, 57, false);
        check.due("one broken look", house.blame(0, 1), -3);
        house.look(0, 44, true);
        check.due("a whole one ahead, told later", house.blame(0, 2), 100);
        house.look(0, 57, true);
        check.due("a whole one of that hour, told later", house.blame(0, 3), 100);
        house.look(0, 60, true);
        check.due("a whole one behind", house.blame(0, 4), 100);
        house.look(0, 50, true);
        house.look(0, 30, true);
        check.due("the last whole one, not the last told", house.blame(0, 6), 100);
        house.look(1, 56, true);
        house.look(1, 57, true);
        check.due("looks at another plate", house.blame(0, 8), 100);
        house.look(0, 90, false);
        check.due("a broken one behind", house.blame(0, 9), 100);
        house.look(0, 44, false);
        check.due("broken at the hour of a whole one told ahead", house.blame(0, 10), -2);
        house.look(0, 40, false);
        check.due("an earlier broken one", house.blame(0, 11), -2);
        house.look(0, 20, false);
        check.due("no whole one ahead", house.blame(0, 12), -3);
        check.due("as was known", house.blame(0, 2), 100);
        check.due("as was known first", house.blame(0, 1), -3);
        check.due("as nothing was known", house.blame(0, 0), -1);
        LanternHouse other = travelled();
        other.look(0, 57, false);
        other.look(0, 57, true);
        other.look(0, 57, false);
        check.due("of two broken ones of an hour the first told", other.blame(0, 3), -3);
    }

    private static void waysAreThoseOfTheMaking(Check check) {
        LanternHouse house = travelled();
        house.cancel(0, 0);
        house.train(0, 1, 0, 1);
        house.cleaning(24);
        house.look(0, 11, true);
        house.look(0, 12, false);
        check.due("the way at 12", house.blame(0, 3), 101);
        check.due("can, which is not made", house.can(1, 3), -2);
        check.due("the way at 12 still", house.blame(0, 3), 101);
        LanternHouse other = travelled();
        other.cancel(0, 0);
        other.look(0, 50, false);
        check.due("before it is made anew", other.blame(0, 2), -3);
        check.due("made anew", other.make(1), 10);
        check.due("show 1 is not kept", other.told(1, 5), 0);
        check.due("the way to show 2 came by 36", other.blame(0, 2), -3);
        other.look(0, 36, true);
        check.due("show 2 alone", other.blame(0, 3), 2);
        other.look(0, 35, false);
        check.due("nothing by 35", other.blame(0, 4), -2);
    }

    private static void wrongBlames(Check check) {
        LanternHouse house = Check.houseWith("lecture a;must 1 for 1;end");
        house.plate(1);
        house.look(0, 30, false);
        check.due("nothing is made", house.blame(0, 1), -1);
        house.make(0);
        check.due("nothing came", house.blame(0, 1), -2);
        check.due("no look says so", house.blame(0, 0), -1);
        check.due("n -1", house.blame(0, -1), -1);
        check.due("n 2", house.blame(0, 2), -1);
        check.due("plate -1", house.blame(-1, 1), -1);
        check.due("plate 1", house.blame(1, 1), -1);
        house.plate(1);
        check.due("a plate never looked at", house.blame(1, 1), -1);
        house.look(1, 30, true);
        check.due("a plate looked at whole", house.blame(1, 2), -1);
    }

    private static void where(Check check) {
        LanternHouse house = travelled();
        int[][] rows = {{0, 0}, {17, 0}, {18, 1}, {41, 1}, {42, 1}, {89, 1}, {90, 0}, {700, 0}};
        for (int[] row : rows) {
            check.due("where(0, " + row[0] + ")", house.where(0, row[0]), row[1]);
        }
        check.due("a plate that stays", house.where(1, 700), 0);
        LanternHouse other = Check.houseWith("lecture a;may 1 for 1;must 2 for 1;end");
        other.hall();
        other.hall();
        other.train(0, 2, 0, 1);
        other.train(2, 1, 0, 1);
        other.plate(2);
        other.show(4, 1, 0, 9, 5);
        other.show(2, 2, 0, 9, 5);
        other.make(0);
        check.due("by nights, not by numbers", other.where(0, 700), 1);
        check.due("ahead of that", other.where(0, 113), 2);
        check.due("at that", other.where(0, 114), 1);
        check.due("ahead of all", other.where(0, 65), 0);
        other.plate(7);
        check.due("a plate that came later", other.where(1, 700), 0);
    }

    private static void wrongWheres(Check check) {
        LanternHouse house = Check.houseWith("lecture a;must 1 for 1;end");
        house.plate(1);
        house.show(0, 0, 0, 0, 1);
        check.due("nothing is made", house.where(0, 0), -1);
        house.make(0);
        check.due("plate -1", house.where(-1, 0), -1);
        check.due("plate 1", house.where(1, 0), -1);
        check.due("hour -1", house.where(0, -1), -1);
        check.due("hour 701", house.where(0, 701), -1);
        check.due("hour 0", house.where(0, 0), 0);
        check.due("hour 700", house.where(0, 700), 0);
        house.read();
        check.due("nothing is made any more", house.where(0, 0), -1);
    }
}
