/** Promises 1 (a new object) and 23 (count). */
public final class CountTest {
    public static void main(String[] args) {
        Check check = new Check();
        newObject(check);
        counts(check);
        objectsAreApart(check);
        check.due("NONE", LanternHouse.NONE, -1);
        check.end();
    }

    private static void all(Check check, LanternHouse house, int... due) {
        for (int what = 0; what < due.length; what++) {
            check.due("count(" + what + ")", house.count(what), due[what]);
        }
        check.due("count(10)", house.count(10), -1);
        check.due("count(-1)", house.count(-1), -1);
        check.due("count(least)", house.count(Integer.MIN_VALUE), -1);
    }

    private static void newObject(Check check) {
        LanternHouse house = new LanternHouse();
        all(check, house, 1, 0, 0, 0, 0, 0, -1, -1, -1, 0);
        check.due("place", house.place(), -1);
        check.due("way", house.way(0, 0, 9, 0), 9);
        check.due("told", house.told(0, 5), -1);
        check.due("can", house.can(0, 0), 0);
        check.due("mend", house.mend(0), -1);
        all(check, house, 1, 0, 0, 0, 0, 0, -1, -1, -1, 0);
    }

    private static void counts(Check check) {
        LanternHouse house = Check.houseWith("lecture a;must 5 or 1 for 1;may 7 for 1;end lecture b;end lecture c;must 9 for 1;end");
        house.hall();
        house.hall();
        house.hall();
        house.train(0, 1, 0, 1);
        house.train(0, 2, 0, 1);
        house.plate(1);
        house.plate(1);
        house.plate(1);
        house.cancel(0, 40);
        house.look(0, 700, true);
        house.look(1, 700, true);
        house.look(1, 700, true);
        house.look(1, 700, true);
        house.show(0, 0, 0, 0, 1);
        house.show(0, 1, 0, 0, 1);
        house.show(0, 2, 2, 0, 1);
        house.show(1, 2, 1, 0, 1);
        house.feed(0, 0, 0, 0, 0);
        all(check, house, 4, 2, 3, 5, 3, 4, -1, -1, -1, 20);
        house.make(0);
        all(check, house, 4, 2, 3, 5, 3, 4, 3, 2, 2, 20);
        house.read();
        all(check, house, 4, 2, 3, 5, 3, 4, 3, 2, 2, 0);
        house.read();
        all(check, house, 4, 2, 3, 5, 0, 0, -1, -1, -1, 0);
    }

    private static void objectsAreApart(Check check) {
        LanternHouse one = Check.houseWith("lecture a;end");
        LanternHouse other = new LanternHouse();
        one.hall();
        one.plate(3);
        one.feed(1, 1, 1, 1, 1);
        one.make(0);
        all(check, other, 1, 0, 0, 0, 0, 0, -1, -1, -1, 0);
        other.hall();
        other.hall();
        all(check, one, 2, 0, 1, 0, 1, 0, 0, 0, 0, 20);
    }
}
