/** Promises 4 (read) and 5 (place): in a text here ^ stands ahead of the byte of its FAULT and is not of it. */
public final class ReadTest {
    private static final String HEAD = "lecture a;";

    public static void main(String[] args) {
        Check check = new Check();
        textsWithoutFault(check);
        tokens(check);
        syntaxOfLectures(check);
        syntaxOfHires(check);
        roomForParts(check);
        roomForTokens(check);
        roomForAnyToken(check);
        twice(check);
        wrong(check);
        firstFaultIsTold(check);
        faultChangesNothing(check);
        newTextEndsShows(check);
        nothingIsLeftOfATextAhead(check);
        namesAreApart(check);
        check.end();
    }

    private static void fits(Check check, int lectures, String text) {
        LanternHouse house = new LanternHouse();
        check.due("read of " + text, Check.read(house, text), 0);
        check.due("place of " + text, house.place(), -1);
        check.due("lectures of " + text, house.count(4), lectures);
        check.due("tape after " + text, house.count(9), 0);
    }

    private static void fault(Check check, int number, String marked) {
        int place = marked.indexOf('^');
        String text = marked.substring(0, place) + marked.substring(place + 1);
        LanternHouse house = new LanternHouse();
        check.due("read of " + marked, Check.read(house, text), number);
        check.due("place of " + marked, house.place(), place);
        check.due("lectures of " + marked, house.count(4), 0);
        check.due("tape after " + marked, house.count(9), 0);
    }

    private static void textsWithoutFault(Check check) {
        check.due("place at first", new LanternHouse().place(), -1);
        fits(check, 0, "");
        fits(check, 0, " \t\r\n");
        fits(check, 1, "lecture a;end");
        fits(check, 2, "lecture a;end lecture b;end");
        fits(check, 1, "\tlecture\na\r; end ");
        fits(check, 1, HEAD + "must 0 for 1;may 29 or 0 or 1 for 30 fade 30;end");
        fits(check, 1, HEAD + "must 1 for 5 fade 0;must 1 for 0030;end");
        fits(check, 1, HEAD + "must1or2for3fade1;hire1;hire2if3<4and5!=6;end");
        fits(check, 1, HEAD + "hire shown+missed-instead*minutes*(gas)-worth;end");
        fits(check, 1, HEAD + "hire 9999 if 1==2 and 1!=2 and 1<2 and 1<=2;end");
        fits(check, 1, HEAD + "hire ((((((1))))))+((((((2))))));end");
        fits(check, 6, "lecture a;end lecture b;end lecture c;end lecture d;end lecture e;end lecture f;end");
        fits(check, 1, HEAD + Check.times(8, "may 1 for 1;") + Check.times(4, "hire 1;") + "end");
    }

    private static void tokens(Check check) {
        fits(check, 1, "lecture abcdefgh;end");
        fits(check, 1, "lecture lecturee;end");
        fits(check, 1, "lecture endd;end");
        fits(check, 1, "lecture z;end");
        fault(check, 1, "lecture ^abcdefghi;end");
        fault(check, 1, "^lectures a;end");
        fault(check, 1, "^lecturea;end");
        fault(check, 1, "lecture a^A;end");
        fault(check, 1, "lecture ^Z;end");
        fault(check, 1, "lecture a^1;end");
        fault(check, 1, "lecture ^1a;end");
        fault(check, 1, "lecture ^`;end");
        fault(check, 1, "lecture ^{;end");
        fault(check, 1, "lecture a;^\f end");
        fault(check, 1, "lecture a;^\u0000end");
        fault(check, 1, "lecture a^:end");
        fault(check, 1, HEAD + "must ^12345 for 1;end");
        fault(check, 1, HEAD + "must ^00001 for 1;end");
        fits(check, 1, HEAD + "must 0001 for 1;end");
        fault(check, 1, HEAD + "hire 1 if 1 ^= 1;end");
        fault(check, 1, HEAD + "hire 1 if 1 ^= = 1;end");
        fault(check, 1, HEAD + "hire 1 if 1 ==^= 1;end");
        fault(check, 1, HEAD + "hire 1 if 1 ^! 1;end");
        fault(check, 1, HEAD + "hire 1 if 1 ^!1;end");
        fault(check, 1, HEAD + "hire 1 if 1 ^> 1;end");
        fault(check, 1, HEAD + "hire 1 if 1 < ^= 1;end");
        fault(check, 1, HEAD + "hire 1 if 1 <=^= 1;end");
        fault(check, 1, HEAD + "hire 1 ^/ 1;end");
        fits(check, 1, HEAD + "hire 1 if 1<=1 and 1<1 and 1==1 and 1!=1;end");
        String words = "lecture end must may or for fade hire if and shown missed instead minutes gas worth";
        for (String word : words.split(" ")) {
            fault(check, 1, "lecture ^" + word + ";end");
        }
        for (String word : "text name int unit lectur ende mus mayb o fo".split(" ")) {
            fits(check, 1, "lecture " + word + ";end");
        }
    }

    private static void syntaxOfLectures(Check check) {
        fault(check, 1, "^end");
        fault(check, 1, "lecture^");
        fault(check, 1, "lecture  ^");
        fault(check, 1, "lecture a^");
        fault(check, 1, "lecture a;^");
        fault(check, 1, "lecture a ^end");
        fault(check, 1, "lecture a;end^;");
        fault(check, 1, "lecture a;end ^end");
        fault(check, 1, "lecture ^;end");
        fault(check, 1, HEAD + "^lecture b;end");
        fault(check, 1, HEAD + "^or 1 for 1;end");
        fault(check, 1, HEAD + "must ^for 1;end");
        fault(check, 1, HEAD + "must 1 ^;end");
        fault(check, 1, HEAD + "must 1 ^2 for 1;end");
        fault(check, 1, HEAD + "must 1 or ^for 1;end");
        fault(check, 1, HEAD + "must 1 or ^or 1 for 1;end");
        fault(check, 1, HEAD + "must 1 for ^;end");
        fault(check, 1, HEAD + "must 1 for ^shown;end");
        fault(check, 1, HEAD + "must 1 for 1 ^or 2;end");
        fault(check, 1, HEAD + "must 1 for 1 fade ^;end");
        fault(check, 1, HEAD + "must 1 for 1 fade 1 ^fade 1;end");
        fault(check, 1, HEAD + "must 1 for 1 ^end");
        fault(check, 1, HEAD + "must 1 for 1;^");
        fault(check, 1, HEAD + "may ^may 1 for 1;end");
        fault(check, 1, HEAD + "hire 1;^must 1 for 1;end");
        fault(check, 1, HEAD + "hire 1;^may 1 for 1;end");
        fault(check, 1, HEAD + "must 1 or 2 or 3 or ^for 1;end");
        fault(check, 1, HEAD + "^;end");
    }

    private static void syntaxOfHires(Check check) {
        fault(check, 1, HEAD + "hire ^;end");
        fault(check, 1, HEAD + "hire ^if 1==1;end");
        fault(check, 1, HEAD + "hire ^name;end");
        fault(check, 1, HEAD + "hire ^-1;end");
        fault(check, 1, HEAD + "hire 1 ^1;end");
        fault(check, 1, HEAD + "hire 1 ^(1);end");
        fault(check, 1, HEAD + "hire 1+^;end");
        fault(check, 1, HEAD + "hire 1+^*1;end");
        fault(check, 1, HEAD + "hire 1*^)1;end");
        fault(check, 1, HEAD + "hire 1^);end");
        fault(check, 1, HEAD + "hire (1^;end");
        fault(check, 1, HEAD + "hire (^);end");
        fault(check, 1, HEAD + "hire ((1)^;end");
        fault(check, 1, HEAD + "hire (1)^);end");
        fault(check, 1, HEAD + "hire (1 ^if 1==1);end");
        fault(check, 1, HEAD + "hire (1 ^== 1);end");
        fault(check, 1, HEAD + "hire 1 ^== 1;end");
        fault(check, 1, HEAD + "hire 1 ^and 1==1;end");
        fault(check, 1, HEAD + "hire 1 if ^;end");
        fault(check, 1, HEAD + "hire 1 if 1^;end");
        fault(check, 1, HEAD + "hire 1 if 1 ^and 1;end");
        fault(check, 1, HEAD + "hire 1 if 1==^;end");
        fault(check, 1, HEAD + "hire 1 if 1==1 ^== 1;end");
        fault(check, 1, HEAD + "hire 1 if (1^<1);end");
        fault(check, 1, HEAD + "hire 1 if 1==1 ^if 1==1;end");
        fault(check, 1, HEAD + "hire 1 if 1==1 and ^;end");
        fault(check, 1, HEAD + "hire 1 if 1==1 and 1^;end");
        fault(check, 1, HEAD + "hire 1 if 1==1 ^or 1==1;end");
        fault(check, 1, HEAD + "hire 1 if 1==1 ^end");
        fault(check, 1, HEAD + "hire 1+^");
        fault(check, 1, HEAD + "hire ^+1;end");
        fault(check, 1, HEAD + "hire (1+2^");
    }

    private static void roomForParts(Check check) {
        String six = "lecture a;end lecture b;end lecture c;end lecture d;end lecture e;end lecture f;end ";
        fault(check, 2, six + "^lecture g;end");
        fault(check, 2, six + "^lecture");
        fault(check, 1, six + "^end");
        fault(check, 2, HEAD + Check.times(8, "must 1 for 1;") + "^must 1 for 1;end");
        fault(check, 2, HEAD + Check.times(8, "must 1 for 1;") + "^may");
        fault(check, 2, HEAD + Check.times(4, "hire 1;") + "^hire 1;end");
        fault(check, 1, HEAD + Check.times(4, "hire 1;") + "^must 1 for 1;end");
        fault(check, 2, HEAD + "must 1 or 2 or 3 or ^4 for 1;end");
        fault(check, 2, HEAD + "must 1 or 2 or 3 or ^4");
        fault(check, 1, HEAD + "must 1 or 2 or 3 or ^");
        fault(check, 2, HEAD + "hire ((((((^(1)))))));end");
        fault(check, 2, HEAD + "hire 1+(2*(3+(4*(5+(6*(7+^(8)))))));end");
        fault(check, 2, HEAD + "hire 1 if (1) < ((((((^(");
        fault(check, 2, HEAD + "hire 1 if ((((((^(1))))))) < 1;end");
        fault(check, 2, HEAD + "hire 1 if 1 < 2 and ((((((^(1))))))) < 1;end");
        fault(check, 1, HEAD + "hire ((((((1^(");
        fits(check, 1, HEAD + "hire ((((((1))))))*(1)*((((((1)))))) if ((((((1)))))) < ((((((2))))));end");
        // what is of another lecture does not count
        fits(check, 2, HEAD + Check.times(8, "may 1 for 1;") + Check.times(4, "hire 1;") + "end lecture b;"
                + Check.times(8, "may 1 for 1;") + Check.times(4, "hire 1;") + "end");
    }

    private static void roomForTokens(Check check) {
        // 3 TOKENS ahead, 3 of a short hire, 3 of a long one's frame and its first INT, end
        String even = HEAD + "hire 1;hire 1";
        fits(check, 1, even + Check.times(295, "+1") + ";end");
        fault(check, 2, even + Check.times(295, "+1") + "; end ^lecture");
        fault(check, 1, even + Check.times(295, "+1") + "; end ^must");
        fault(check, 1, even + Check.times(295, "+1") + "; end ^=");
        fault(check, 1, even + Check.times(295, "+1") + ";^");
        fault(check, 2, even + Check.times(296, "+1") + "^;end");
        fault(check, 1, even + Check.times(296, "+1") + "^)");
        fault(check, 1, even + Check.times(296, "+1") + "^");
        String odd = HEAD + "hire 1";
        fault(check, 2, odd + Check.times(297, "+1") + ";^end");
        fault(check, 1, odd + Check.times(297, "+1") + ";^abc");
        fault(check, 2, odd + Check.times(297, "+1") + ";^hire");
        fault(check, 2, odd + Check.times(297, "+1") + "+^1");
        fault(check, 2, odd + Check.times(297, "+1") + "+^1" + Check.times(50, "+1"));
        fault(check, 1, odd + Check.times(297, "+1") + "+^*");
        fault(check, 2, odd + Check.times(297, "+1") + "+^(((");
    }

    /** Each TOKEN of a lecture in turn is the 601st, by sums ahead of it that are as long as that asks for. */
    private static void roomForAnyToken(Check check) {
        String tail = "lecture b ; must 1 or 2 or 3 for 4 fade 4 ; may 5 for 6 ; "
                + "hire ( 1 + shown ) * 2 - 3 if 4 == 5 and ( 6 ) <= 7 and 8 != 9 and 1 < 2 ; hire 1 ; end";
        String[] tokens = tail.split(" ");
        int place = 0;
        for (int i = 0; i < tokens.length; i++) {
            int ahead = 600 - i;
            boolean isOdd = ahead % 2 == 1;
            String head = HEAD + (isOdd ? "" : "hire 1;") + "hire 1"
                    + Check.times((ahead - (isOdd ? 7 : 10)) / 2, "+1") + ";end ";
            fault(check, 2, head + tail.substring(0, place) + "^" + tail.substring(place));
            fault(check, 1, head + tail.substring(0, place) + "^?");
            place += tokens[i].length() + 1;
        }
    }

    private static void twice(Check check) {
        fault(check, 3, "lecture a;end lecture ^a;end");
        fault(check, 3, "lecture a;end lecture b;end lecture ^a;end");
        fault(check, 3, "lecture abcdefgh;end lecture ^abcdefgh;end");
        fits(check, 2, "lecture abcdefgh;end lecture abcdefgi;end");
        fits(check, 2, "lecture abcdefgh;end lecture bbcdefgh;end");
        fits(check, 3, "lecture a;end lecture aa;end lecture aaa;end");
        fits(check, 4, "lecture b;end lecture bb;end lecture bbb;end lecture z;end");
        fits(check, 3, "lecture az;end lecture ba;end lecture b;end");
        fault(check, 3, HEAD + "must 1 or ^1 for 1;end");
        fault(check, 3, HEAD + "must 1 or 2 or ^2 for 1;end");
        fault(check, 3, HEAD + "must 1 or 2 or ^1 for 1;end");
        fault(check, 3, HEAD + "must 1 or ^0001 for 1;end");
        fits(check, 1, HEAD + "must 1 or 2 for 1;must 1 or 2 for 1;end");
    }

    private static void wrong(Check check) {
        fault(check, 5, HEAD + "must ^30 for 1;end");
        fault(check, 5, HEAD + "must 1 or ^30 for 1;end");
        fault(check, 5, HEAD + "must 1 or 2 or ^9999 for 1;end");
        fault(check, 5, HEAD + "must ^30 or 30 for 1;end");
        fault(check, 5, HEAD + "must 1 for ^0;end");
        fault(check, 5, HEAD + "must 1 for ^31;end");
        fault(check, 5, HEAD + "must 1 for ^0000;end");
        fault(check, 5, HEAD + "must 1 for 1 fade ^2;end");
        fault(check, 5, HEAD + "must 1 for 30 fade ^31;end");
        fault(check, 5, HEAD + "must 1 for ^0 fade 1;end");
        fits(check, 1, HEAD + "must 29 for 1 fade 1;end");
    }

    private static void firstFaultIsTold(Check check) {
        // SYNTAX and ROOM go ahead of the others wherever they are
        fault(check, 1, HEAD + "must 30 for 0;end ^end");
        fault(check, 2, HEAD + "must 1 or 1 for 0;hire ((((((^(1)))))));end");
        fault(check, 1, HEAD + "must 1 ^; must 1 or 2 or 3 or 4 for 1;end");
        fault(check, 2, HEAD + "must 1 or 2 or 3 or ^4 for ; end");
        // of the others the first by its place
        fault(check, 5, HEAD + "must 1 for ^0;must 1 or 1 for 1;end");
        fault(check, 3, HEAD + "must 1 or ^1 for 0;end");
        fault(check, 5, HEAD + "must ^30 for 1;end lecture a;end");
        fault(check, 3, "lecture a;end lecture ^a;must 30 for 1;end");
    }

    private static void faultChangesNothing(Check check) {
        LanternHouse house = Check.houseWith("lecture a;hire 7;end lecture b;end");
        house.show(1, 0, 0, 5, 6);
        house.make(0);
        check.due("a text with SYNTAX", Check.read(house, "lecture c;must 1 for 1;hire 9;"), 1);
        check.due("a text that is TWICE", Check.read(house, "lecture c;must 1 or 1 for 1;hire 9;end"), 3);
        check.due("its place", house.place(), 20);
        check.due("lectures", house.count(4), 2);
        check.due("shows", house.count(5), 1);
        check.due("kept", house.count(6), 1);
        check.due("hire", house.showing(0, 5), 7);
        check.due("cues", house.cue(0, 0, 0), -1);
        check.due("a text of nothing", house.read(), 0);
        check.due("place then", house.place(), -1);
        check.due("lectures then", house.count(4), 0);
    }

    private static void newTextEndsShows(Check check) {
        LanternHouse house = Check.houseWith("lecture a;must 3 for 2;hire 7;end lecture b;end");
        house.plate(3);
        house.look(0, 5, true);
        house.show(1, 0, 0, 5, 6);
        house.make(0);
        check.due("hire of the first text", house.showing(0, 5), 7);
        check.due("the same names again", Check.read(house, "lecture a;hire 8;end"), 0);
        check.due("lectures", house.count(4), 1);
        check.due("shows", house.count(5), 0);
        check.due("kept", house.count(6), -1);
        check.due("mend", house.mend(0), -1);
        check.due("plates", house.count(2), 1);
        check.due("facts", house.count(3), 1);
        check.due("a show of a lecture that is gone", house.show(1, 0, 1, 5, 6), -1);
        check.due("a show in the place of the old one", house.show(1, 0, 0, 5, 6), 0);
        check.due("told 5", house.told(0, 5), 0);
        check.due("make", house.make(0), 6);
        check.due("hire of the second text", house.showing(0, 5), 8);
        check.due("cues of the second text", house.cue(0, 0, 3), -1);
        check.due("a third text", Check.read(house, "lecture c;must 4 for 2;end"), 0);
        house.show(0, 0, 0, 5, 6);
        check.due("make by the third", house.make(0), 0);
    }

    /** Reads a text of one lecture, and goes through a SHOW of it with PLATES of KINDS 0 .. 2. */
    private static void showsOf(Check check, LanternHouse house, String text, int shown, int gas, int hire) {
        check.due("read of " + text, Check.read(house, text), 0);
        house.show(0, 0, 0, 500, 10);
        check.due("make of " + text, house.make(0), 10);
        check.due("shown of " + text, house.showing(0, 0), shown);
        check.due("gas of " + text, house.showing(0, 4), gas);
        check.due("hire of " + text, house.showing(0, 5), hire);
        check.due("a cue behind the last of " + text, house.cue(0, shown, 3), -1);
    }

    /** What texts ahead told, with a FAULT or without, is not in one that is read later. */
    private static void nothingIsLeftOfATextAhead(Check check) {
        String[] ahead = {
            HEAD + "must 1 for 4 fade 3;must 2 for 5 fade 5;hire 1+2+3;hire 9;end",
            HEAD + "must 1 or 2 for 4 fade 3;may 0 for 1;hire 5*(6+(7-8));hire 3;hire 4;end ?",
            HEAD + "must 1 for 4 fade 3;must 2 for 5 fade 5;hire 1+2*(3-4*(5",
            HEAD + "must 1 for 4 fade 3;must 2 for 5 fade 5;hire 1 if 2*(3",
            HEAD + "must 1 or 1 for 4 fade 3;hire 1;hire 2 if 1<2 and 3<4;end",
            HEAD + "hire 1" + Check.times(280, "+1") + ";end",
            HEAD + "hire 1" + Check.times(280, "*1") + ";",
        };
        for (String first : ahead) {
            for (String second : ahead) {
                LanternHouse house = new LanternHouse();
                for (int kind = 0; kind < 3; kind++) {
                    house.plate(kind);
                }
                String[] texts = {HEAD + "end", HEAD + "must 2 for 3;end", HEAD + "hire 7 if 1<2;end",
                    HEAD + "hire 7 if 2<1;hire 8-1*2;end"};
                int[][] due = {{0, 0, 0}, {1, 3, 0}, {0, 0, 7}, {0, 0, 6}};
                for (int i = 0; i < texts.length; i++) {
                    // twice, so that wherever texts are held there was one ahead
                    Check.read(house, first);
                    Check.read(house, second);
                    showsOf(check, house, texts[i], due[i][0], due[i][1], due[i][2]);
                }
            }
        }
    }

    private static void namesAreApart(Check check) {
        String[] names = {"a", "b", "z", "aa", "ab", "ba", "bb", "az", "za", "zz", "aaa", "aab", "aba", "baa", "abc", "cba", "acb",
            "aaaaaaaa", "aaaaaaab", "baaaaaaa", "abaaaaaa", "zzzzzzzz", "zzzzzzz", "azzzzzzz", "zzzzzzza"};
        for (String one : names) {
            for (String other : names) {
                boolean isTwice = one.equals(other);
                LanternHouse house = new LanternHouse();
                String text = "lecture " + one + ";end lecture " + other + ";end";
                check.due("read of " + text, Check.read(house, text), isTwice ? 3 : 0);
                check.due("place of " + text, house.place(), isTwice ? 21 + one.length() : -1);
            }
        }
    }
}
