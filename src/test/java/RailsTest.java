/** Promises 6 (hall), 7 (train), 10 (cancel) and 13 (way). */
public final class RailsTest {
    public static void main(String[] args) {
        Check check = new Check();
        halls(check);
        trains(check);
        cancels(check);
        ways(check);
        waysThatDoNotRun(check);
        longWays(check);
        wrongWays(check);
        check.end();
    }

    private static LanternHouse houseWithHalls(int halls) {
        LanternHouse house = new LanternHouse();
        for (int i = 1; i < halls; i++) {
            house.hall();
        }
        return house;
    }

    private static void halls(Check check) {
        LanternHouse house = new LanternHouse();
        for (int i = 1; i <= 5; i++) {
            check.due("hall " + i, house.hall(), i);
        }
        check.due("a seventh", house.hall(), -1);
        check.due("count(0)", house.count(0), 6);
    }

    private static void trains(Check check) {
        LanternHouse house = houseWithHalls(3);
        check.due("from -1", house.train(-1, 0, 1, 1), -1);
        check.due("from 3", house.train(3, 0, 1, 1), -1);
        check.due("to -1", house.train(0, -1, 1, 1), -1);
        check.due("to 3", house.train(0, 3, 1, 1), -1);
        check.due("one and the same", house.train(2, 2, 1, 1), -1);
        check.due("hour -1", house.train(0, 1, -1, 1), -1);
        check.due("hour 24", house.train(0, 1, 24, 1), -1);
        check.due("takes 0", house.train(0, 1, 1, 0), -1);
        check.due("takes 31", house.train(0, 1, 1, 31), -1);
        check.due("takes least", house.train(0, 1, 1, Integer.MIN_VALUE), -1);
        check.due("count(1)", house.count(1), 0);
        check.due("hour 0, takes 1", house.train(0, 1, 0, 1), 0);
        check.due("hour 23, takes 30", house.train(1, 2, 23, 30), 1);
        for (int i = 2; i < 16; i++) {
            check.due("train " + i, house.train(2, 0, 5, 5), i);
        }
        check.due("a 17th", house.train(2, 0, 5, 5), -1);
        check.due("count(1) of all", house.count(1), 16);
    }

    private static void cancels(Check check) {
        LanternHouse house = houseWithHalls(2);
        check.due("no train", house.cancel(0, 0), -1);
        house.train(0, 1, 5, 5);
        check.due("train -1", house.cancel(-1, 0), -1);
        check.due("train 1", house.cancel(1, 0), -1);
        check.due("day -1", house.cancel(0, -1), -1);
        check.due("day 41", house.cancel(0, 41), -1);
        check.due("count(3)", house.count(3), 0);
        check.due("day 0", house.cancel(0, 0), 0);
        check.due("day 40", house.cancel(0, 40), 1);
        check.due("day 40 again", house.cancel(0, 40), 2);
        for (int i = 3; i < 300; i++) {
            check.due("fact " + i, house.cancel(0, 3), i);
        }
        check.due("a 301st fact", house.cancel(0, 3), -1);
        check.due("count(3) of all", house.count(3), 300);
        check.due("way by all", house.way(0, 1, 0, 300), 34);
        check.due("way by more", house.way(0, 1, 0, 301), -1);
    }

    private static void ways(Check check) {
        LanternHouse house = houseWithHalls(4);
        house.train(0, 1, 8, 4);
        house.train(1, 2, 12, 30);
        house.train(0, 2, 23, 30);
        house.train(2, 0, 0, 1);
        check.due("to itself", house.way(3, 3, 700, 0), 700);
        check.due("at once", house.way(0, 1, 8, 0), 12);
        check.due("an hour late", house.way(0, 1, 9, 0), 36);
        check.due("leaves as the other comes", house.way(0, 2, 0, 0), 42);
        check.due("straight", house.way(0, 2, 9, 0), 53);
        check.due("around", house.way(1, 0, 12, 0), 49);
        check.due("there and never back", house.way(0, 3, 0, 0), -1);
        check.due("never away", house.way(3, 0, 0, 0), -1);
        check.due("at midnight", house.way(2, 0, 24, 0), 25);
        check.due("behind midnight", house.way(2, 0, 25, 0), 49);
        check.due("at the last hour", house.way(2, 0, 700, 0), 721);
        check.due("of the same hour", house.way(0, 1, 680, 0), 684);
    }

    private static void waysThatDoNotRun(Check check) {
        LanternHouse house = houseWithHalls(3);
        house.train(0, 1, 8, 4);
        house.train(0, 2, 9, 2);
        house.train(2, 1, 13, 3);
        house.cancel(0, 1);
        check.due("not known", house.way(0, 1, 24, 0), 36);
        check.due("known: by the other ones", house.way(0, 1, 24, 1), 40);
        check.due("another day", house.way(0, 1, 0, 1), 12);
        house.cancel(1, 1);
        check.due("none of that day", house.way(0, 1, 24, 2), 60);
        check.due("as was known", house.way(0, 1, 24, 1), 40);
        house.look(0, 0, true);
        for (int day = 0; day <= 40; day++) {
            house.cancel(0, day);
            house.cancel(1, day);
        }
        check.due("from day 41 on", house.way(0, 1, 0, house.count(3)), 24 * 41 + 12);
        check.due("all but day 40", house.way(0, 1, 0, house.count(3) - 2), 24 * 40 + 12);
        check.due("all but one of day 40", house.way(0, 1, 0, house.count(3) - 1), 24 * 40 + 16);
        check.due("the last hour", house.way(0, 1, 700, house.count(3)), 24 * 41 + 12);
    }

    private static void longWays(Check check) {
        LanternHouse house = houseWithHalls(6);
        // told against their order, so that each is only of use once the next ones were looked at
        house.train(4, 5, 4, 30);
        house.train(3, 4, 3, 30);
        house.train(2, 3, 2, 30);
        house.train(1, 2, 1, 30);
        house.train(0, 1, 0, 30);
        check.due("five trains", house.way(0, 5, 0, 0), 226);
        check.due("from a later hour", house.way(0, 5, 1, 0), 250);
        house.train(0, 5, 10, 30);
        check.due("a short cut", house.way(0, 5, 0, 0), 40);
        check.due("back", house.way(5, 0, 0, 0), -1);
    }

    private static void wrongWays(Check check) {
        LanternHouse house = houseWithHalls(2);
        house.train(0, 1, 8, 4);
        check.due("from -1", house.way(-1, 0, 0, 0), -1);
        check.due("from 2", house.way(2, 0, 0, 0), -1);
        check.due("to -1", house.way(0, -1, 0, 0), -1);
        check.due("to 2", house.way(0, 2, 0, 0), -1);
        check.due("hour -1", house.way(0, 1, -1, 0), -1);
        check.due("hour 701", house.way(0, 1, 701, 0), -1);
        check.due("to itself at 701", house.way(0, 0, 701, 0), -1);
        check.due("n -1", house.way(0, 1, 0, -1), -1);
        check.due("n 1", house.way(0, 1, 0, 1), -1);
        check.due("to itself by n 1", house.way(0, 0, 0, 1), -1);
        check.due("hour 700", house.way(0, 1, 700, 0), 708);
    }
}
