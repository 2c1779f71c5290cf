import java.util.ArrayList;
import java.util.Arrays;
import java.util.List;

/**
 * Promises 4 (read) and 5 (place), TOKEN by TOKEN and byte by byte: behind each kind of beginning every TOKEN, what is
 * none and the text's end are tried, and between TOKENS every byte.
 */
public final class GrammarTest {
    private static final String[] NO_TOKENS = {"=", "!", ">", "?", "A", "abcdefghi", "12345", "_", "\"", "/", "\u0000", "\u00ff"};
    private static final String[] TOKENS = ("lecture end must may or for fade hire if and shown missed instead minutes gas worth "
            + "abcdefgh x 0 9999 ; + - * == != < <= ( )").split(" ");
    private static final String UNIT = "0 9999 ( shown missed instead minutes gas worth";
    private static final String PARTS = "must may hire end";
    private static final String RELATIONS = "== != < <=";
    private static final String HEAD = "lecture a;";

    public static void main(String[] args) {
        Check check = new Check();
        lectures(check);
        cues(check);
        hires(check);
        fullParts(check);
        bytesBetweenTokens(check);
        bytesWithinTokens(check);
        longWords(check);
        textsOfAllBytes(check);
        check.end();
    }

    private static void reads(Check check, String text, int fault, int place) {
        LanternHouse house = new LanternHouse();
        String told = text.length() > 90 ? ".. " + text.substring(text.length() - 80) : text;
        check.due("read of " + told, Check.read(house, text), fault);
        check.due("place of " + told, house.place(), place);
        check.due("tape behind " + told, house.count(9), 0);
    }

    /** Behind this beginning a text goes on by those TOKENS alone; full ones are of a part that there is no ROOM for. */
    private static void goesOn(Check check, String beginning, boolean mayEnd, String next, String full) {
        List<String> nexts = Arrays.asList(next.split(" "));
        List<String> fulls = Arrays.asList(full.split(" "));
        reads(check, beginning, mayEnd ? 0 : 1, mayEnd ? -1 : beginning.length());
        List<String> all = new ArrayList<>(Arrays.asList(TOKENS));
        all.addAll(Arrays.asList(NO_TOKENS));
        for (String token : all) {
            String text = beginning + " " + token;
            if (fulls.contains(token)) {
                reads(check, text, 2, beginning.length() + 1);
            } else if (!nexts.contains(token)) {
                reads(check, text, 1, beginning.length() + 1);
            } else if (token.equals("end")) {
                reads(check, text, 0, -1);
            } else {
                // it goes on, and what is wrong is that it ends there
                reads(check, text, 1, text.length());
                reads(check, text + " \n", 1, text.length() + 2);
            }
        }
    }

    private static void goesOn(Check check, String beginning, String next) {
        goesOn(check, beginning, false, next, "");
    }

    private static void lectures(Check check) {
        goesOn(check, "", true, "lecture", "");
        goesOn(check, "lecture", "abcdefgh x");
        goesOn(check, "lecture a", ";");
        goesOn(check, HEAD, PARTS);
        goesOn(check, HEAD + "end", true, "lecture", "");
        goesOn(check, HEAD + "end lecture", "abcdefgh x");
        goesOn(check, HEAD + "end lecture b;", PARTS);
        goesOn(check, HEAD + "end lecture b;end", true, "lecture", "");
    }

    private static void cues(Check check) {
        for (String word : new String[] {"must", "may"}) {
            String head = HEAD + word;
            goesOn(check, head, "0 9999");
            goesOn(check, head + " 1", "or for");
            goesOn(check, head + " 1 or", "0 9999");
            goesOn(check, head + " 1 or 2", "or for");
            goesOn(check, head + " 1 or 2 or", "0 9999");
            goesOn(check, head + " 1 or 2 or 3", "or for");
            goesOn(check, head + " 1 for", "0 9999");
            goesOn(check, head + " 1 or 2 for", "0 9999");
            goesOn(check, head + " 1 or 2 or 3 for", "0 9999");
            goesOn(check, head + " 1 for 2", "fade ;");
            goesOn(check, head + " 1 for 2 fade", "0 9999");
            goesOn(check, head + " 1 for 2 fade 1", ";");
            goesOn(check, head + " 1 for 2;", PARTS);
            goesOn(check, head + " 1 for 2 fade 1;", PARTS);
        }
    }

    private static void hires(Check check) {
        goesOn(check, HEAD + "hire", UNIT);
        goesOn(check, HEAD + "must 1 for 1;hire", UNIT);
        for (String unit : new String[] {"1", "gas", "(1)", "1+1", "1*1", "1-(1*gas)", "((1))"}) {
            goesOn(check, HEAD + "hire " + unit, "+ - * if ;");
            goesOn(check, HEAD + "hire " + unit + "+", UNIT);
            goesOn(check, HEAD + "hire " + unit + "-", UNIT);
            goesOn(check, HEAD + "hire " + unit + "*", UNIT);
            goesOn(check, HEAD + "hire (" + unit, "+ - * )");
            goesOn(check, HEAD + "hire 1 if " + unit, "+ - * " + RELATIONS);
            goesOn(check, HEAD + "hire 1 if (" + unit, "+ - * )");
            goesOn(check, HEAD + "hire 1 if 1 < " + unit, "+ - * and ;");
            goesOn(check, HEAD + "hire 1 if 1 <= (" + unit, "+ - * )");
            goesOn(check, HEAD + "hire 1 if 1 == 1 and " + unit, "+ - * " + RELATIONS);
            goesOn(check, HEAD + "hire 1 if 1 == 1 and 1 != " + unit, "+ - * and ;");
        }
        goesOn(check, HEAD + "hire (", UNIT);
        goesOn(check, HEAD + "hire ((", UNIT);
        goesOn(check, HEAD + "hire 1 if", UNIT);
        for (String relation : RELATIONS.split(" ")) {
            goesOn(check, HEAD + "hire 1 if 1" + relation, UNIT);
            goesOn(check, HEAD + "hire 1 if 1==1 and 1" + relation, UNIT);
        }
        goesOn(check, HEAD + "hire 1 if 1==1 and", UNIT);
        goesOn(check, HEAD + "hire 1;", "hire end");
        goesOn(check, HEAD + "hire 1 if 1==1;", "hire end");
        goesOn(check, HEAD + "hire 1 if 1==1 and 1==1;", "hire end");
    }

    private static void fullParts(Check check) {
        String six = "";
        for (char name = 'a'; name < 'g'; name++) {
            six += "lecture " + name + ";end ";
        }
        goesOn(check, six.substring(0, six.length() - 15), true, "lecture", "");
        goesOn(check, six, true, "", "lecture");
        goesOn(check, HEAD + Check.times(7, "may 1 for 1;"), PARTS);
        goesOn(check, HEAD + Check.times(8, "may 1 for 1;"), false, "hire end", "must may");
        goesOn(check, HEAD + Check.times(3, "hire 1;"), "hire end");
        goesOn(check, HEAD + Check.times(4, "hire 1;"), false, "end", "hire");
        goesOn(check, HEAD + "may 1 or 2 or 3 or", false, "", "0 9999");
        String unit = UNIT.replace("( ", "");
        for (String ahead : new String[] {"hire ", "hire 1 if ", "hire 1 if 1 == ", "hire (1)*((1))+", "hire 1 if 1<1 and "}) {
            goesOn(check, HEAD + ahead + "(((((", UNIT);
            goesOn(check, HEAD + ahead + "((((((", false, unit, "(");
            goesOn(check, HEAD + ahead + "((((((1)+", UNIT);
            goesOn(check, HEAD + ahead + "((((((1)))))*1+(1*", false, unit + " (", "");
            goesOn(check, HEAD + ahead + "((((((1+2*", false, unit, "(");
        }
        // side by side, not within one another
        reads(check, HEAD + "hire " + Check.times(40, "(1)+") + "((((((1))))));end", 0, -1);
    }

    private static boolean isBlank(int b) {
        return b == 9 || b == 10 || b == 13 || b == 32;
    }

    private static void bytesBetweenTokens(Check check) {
        for (int b = 0; b < 256; b++) {
            String s = String.valueOf((char) b);
            boolean blank = isBlank(b);
            reads(check, s, blank ? 0 : 1, blank ? -1 : 0);
            reads(check, HEAD + s + "end", blank ? 0 : 1, blank ? -1 : 10);
            reads(check, HEAD + "end" + s, blank ? 0 : 1, blank ? -1 : b >= 'a' && b <= 'z' ? 10 : 13);
            reads(check, HEAD + "end " + s, blank ? 0 : 1, blank ? -1 : 14);
            // ahead of a relation's second byte
            boolean begins = b == '=' || b == '!' || b == '<';
            boolean goesOn = blank || b >= '0' && b <= '9' || "+-*".indexOf(b) >= 0;
            reads(check, HEAD + "hire 1 if 1" + s + "=1;end", begins ? 0 : 1, begins ? -1 : goesOn ? 22 : 21);
        }
    }

    private static void bytesWithinTokens(Check check) {
        for (int b = 0; b < 256; b++) {
            String s = String.valueOf((char) b);
            boolean blank = isBlank(b);
            boolean letter = b >= 'a' && b <= 'z';
            boolean digit = b >= '0' && b <= '9';
            int name = letter || blank ? -1 : b == ';' ? 10 : 9;
            reads(check, "lecture a" + s + ";end", name == -1 ? 0 : 1, name);
            int kind = digit || blank ? -1 : 16;
            reads(check, HEAD + "must 1" + s + " for 1;end", kind == -1 ? 0 : 1, kind);
            // 02, 12 and 22 are KINDS, 32 is none
            int standIn = blank || digit && b <= '2' ? -1 : letter ? 16 : 18;
            reads(check, HEAD + "may 1 or" + s + "2 for 1;end", standIn == -1 ? 0 : digit ? 5 : 1, standIn);
            boolean joins = digit || "+-*".indexOf(b) >= 0;
            reads(check, HEAD + "hire 1" + s + "1;end", joins ? 0 : 1, joins ? -1 : blank || b == ';' ? 17 : 16);
        }
    }

    /** Words of all lengths: of the longest that can be, not of a part of it. */
    private static void longWords(Check check) {
        for (int letters = 1; letters <= 40; letters++) {
            for (String letter : new String[] {"a", "m", "z"}) {
                String name = letter.repeat(letters);
                reads(check, "lecture " + name + ";end", letters <= 8 ? 0 : 1, letters <= 8 ? -1 : 8);
            }
            String digits = "0".repeat(letters - 1) + "7";
            reads(check, HEAD + "must " + digits + " for 9;end", letters <= 4 ? 0 : 1, letters <= 4 ? -1 : 15);
            reads(check, HEAD + "must 1 for " + digits + ";end", letters <= 4 ? 0 : 1, letters <= 4 ? -1 : 21);
            reads(check, HEAD + "must 1 for 9 fade " + digits + ";end", letters <= 4 ? 0 : 1, letters <= 4 ? -1 : 28);
            reads(check, HEAD + "hire " + digits + ";end", letters <= 4 ? 0 : 1, letters <= 4 ? -1 : 15);
        }
        for (String word : TOKENS) {
            boolean isWord = word.length() > 1 && Character.isLetter(word.charAt(0)) && !word.startsWith("abc");
            if (isWord) {
                reads(check, "lecture " + word + ";end", 1, 8);
                reads(check, "lecture x" + word + ";end", 0, -1);
                reads(check, "lecture " + word + "x;end", 0, -1);
                String less = word.substring(0, word.length() - 1);
                reads(check, "lecture " + less + ";end", 0, -1);
                reads(check, "lecture " + word.substring(1) + ";end", word.equals("for") ? 1 : 0, word.equals("for") ? 8 : -1);
                reads(check, "lecture " + less + " " + word.substring(word.length() - 1) + ";end", 1, 9 + less.length());
            }
        }
    }

    /** Texts that fill the tape: its last byte is read, and its end is at 3,000. */
    private static void textsOfAllBytes(Check check) {
        String blanks = " ".repeat(3000);
        reads(check, blanks, 0, -1);
        reads(check, blanks.substring(13) + HEAD + "end", 0, -1);
        reads(check, blanks.substring(10) + HEAD, 1, 3000);
        reads(check, HEAD + blanks.substring(10), 1, 3000);
        reads(check, HEAD + "end" + blanks.substring(14) + ";", 1, 2999);
        reads(check, HEAD + blanks.substring(11) + "e", 1, 2999);
        reads(check, HEAD + blanks.substring(19) + "lectures;", 1, 2991);
        reads(check, "a".repeat(3000), 1, 0);
        reads(check, "9".repeat(3000), 1, 0);
        reads(check, ";".repeat(3000), 1, 0);
        reads(check, HEAD + "hire " + "(".repeat(2985), 2, 21);
        reads(check, HEAD + "hire " + "1+".repeat(1492) + "1", 2, 15 + 596);
        reads(check, HEAD + "hire 1" + "\t\r\n ".repeat(746), 1, 3000);
    }
}
