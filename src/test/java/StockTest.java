/** Promises 8 (plate), 11 (look) and 14 (broken). */
public final class StockTest {
    public static void main(String[] args) {
        Check check = new Check();
        plates(check);
        looks(check);
        brokenByTheLatestHour(check);
        wrongOnes(check);
        check.end();
    }

    private static void plates(Check check) {
        LanternHouse house = new LanternHouse();
        check.due("kind -1", house.plate(-1), -1);
        check.due("kind 30", house.plate(30), -1);
        check.due("count(2)", house.count(2), 0);
        check.due("kind 0", house.plate(0), 0);
        check.due("kind 29", house.plate(29), 1);
        for (int i = 2; i < 20; i++) {
            check.due("plate " + i, house.plate(5), i);
        }
        check.due("a 21st", house.plate(5), -1);
        check.due("count(2) of all", house.count(2), 20);
    }

    private static void looks(Check check) {
        LanternHouse house = new LanternHouse();
        check.due("no plate", house.look(0, 0, true), -1);
        house.plate(5);
        check.due("plate -1", house.look(-1, 0, true), -1);
        check.due("plate 1", house.look(1, 0, true), -1);
        check.due("hour -1", house.look(0, -1, true), -1);
        check.due("hour 701", house.look(0, 701, true), -1);
        check.due("count(3)", house.count(3), 0);
        check.due("hour 0", house.look(0, 0, true), 0);
        check.due("hour 700", house.look(0, 700, false), 1);
        for (int i = 2; i < 300; i++) {
            check.due("fact " + i, house.look(0, 10, true), i);
        }
        check.due("a 301st", house.look(0, 10, true), -1);
        check.due("count(3) of all", house.count(3), 300);
    }

    private static void brokenByTheLatestHour(Check check) {
        LanternHouse house = new LanternHouse();
        house.plate(5);
        house.plate(5);
        check.due("never looked at", house.broken(0, 700, 0), 0);
        house.look(0, 50, false);
        house.look(0, 20, true);
        check.due("the latest hour, not the last told", house.broken(0, 60, 2), 1);
        check.due("at its own hour", house.broken(0, 50, 2), 1);
        check.due("an hour ahead of it", house.broken(0, 49, 2), 0);
        check.due("the other plate", house.broken(1, 60, 2), 0);
        check.due("nothing is known", house.broken(0, 60, 0), 0);
        house.look(0, 50, true);
        check.due("of the same the last told", house.broken(0, 60, 3), 0);
        check.due("as was known", house.broken(0, 60, 2), 1);
        house.look(0, 50, false);
        check.due("and again", house.broken(0, 50, 4), 1);
        house.look(1, 55, true);
        check.due("a look at the other plate", house.broken(0, 60, 5), 1);
        house.look(0, 0, false);
        check.due("at hour 0", house.broken(0, 0, 6), 1);
        check.due("mended by 20", house.broken(0, 20, 6), 0);
        check.due("up to 20", house.broken(0, 19, 6), 1);
    }

    private static void wrongOnes(Check check) {
        LanternHouse house = new LanternHouse();
        check.due("no plate", house.broken(0, 0, 0), -1);
        house.plate(5);
        house.look(0, 0, false);
        check.due("plate -1", house.broken(-1, 0, 0), -1);
        check.due("plate 1", house.broken(1, 0, 0), -1);
        check.due("hour -1", house.broken(0, -1, 0), -1);
        check.due("hour 701", house.broken(0, 701, 0), -1);
        check.due("n -1", house.broken(0, 0, -1), -1);
        check.due("n 2", house.broken(0, 0, 2), -1);
        check.due("the edges", house.broken(0, 700, 1), 1);
    }
}
