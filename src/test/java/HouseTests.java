/** A house told in letters: each letter at each place, each number, each pair of floors, and where it is at fault. */
public final class HouseTests extends Checks {
    private static final String TWO = "fo1111;fm2122;";
    private static final String DIGIT = "0123456789";
    private static final String[] STATEMENTS = {"fo4122;", "u0799;", "b010203;", "s5;", "g17;", "r216;", "x01;"};
    /** What may stand at each place behind the head of a statement: k the letter of a kind, d a digit. */
    private static final String[] FORMS = {"kdddd;", "dddd;", "dddddd;", "d;", "dd;", "ddd;", "dd;"};

    private static boolean mayStand(char form, int c) {
        if (form == 'k') return "omtdgq".indexOf(c) >= 0;
        if (form == 'd') return DIGIT.indexOf(c) >= 0;
        return c == form;
    }

    /** "the place of the first letter with which no HOUSE can go on": each of 256 letters at each place. */
    private static void eachLetter() {
        for (int s = 0; s < STATEMENTS.length; s++) {
            for (int p = 1; p < STATEMENTS[s].length(); p++) {
                for (int c = 0; c <= 255; c++) {
                    letterAt("", s, p, c);
                    letterAt("s3;", s, p, c);
                }
            }
        }
    }

    private static void letterAt(String ahead, int s, int p, int c) {
        String text = ahead + STATEMENTS[s].substring(0, p) + (char) c + STATEMENTS[s].substring(p + 1);
        int answer = told(housed(TWO), text);
        String call = "house() of " + text + " with " + c + " at " + (ahead.length() + p);
        if (mayStand(FORMS[s].charAt(p - 1), c)) due(call + ", its form is right", answer > 0 || answer <= -2000 ? 1 : 0, 1);
        else due(call, answer, -1000 - ahead.length() - p);
    }

    private static void eachHead() {
        for (int c = 0; c <= 255; c++) {
            boolean head = "fubsgrx".indexOf(c) >= 0;
            due("house() of " + c, told(new TrolleyAtEleven(), "" + (char) c), head ? -1001 : -1000);
            due("house() of s1; and " + c, told(new TrolleyAtEleven(), "s1;" + (char) c), head ? -1004 : -1003);
            due("house() of s1 and " + c, told(new TrolleyAtEleven(), "s1" + (char) c), c == ';' ? 1 : -1002);
        }
    }

    /** "the end, if something lacks": each statement cut behind each of its letters. */
    private static void cut() {
        for (String statement : STATEMENTS) {
            for (int length = 1; length < statement.length(); length++) {
                String text = statement.substring(0, length);
                due("house() of " + text, told(housed(TWO), text), -1000 - length);
                due("house() of s1; and " + text, told(housed(TWO), "s1;" + text), -1003 - length);
            }
            due("house() of " + statement, told(housed(TWO), statement), 1);
            due("house() of s1; and " + statement, told(housed(TWO), "s1;" + statement), 2);
        }
    }

    /** "At least one STATEMENT". */
    private static void atLeastOne() {
        TrolleyAtEleven x = new TrolleyAtEleven();
        due("house() of nothing", x.house(), -1000);
        due("house() of nothing again", x.house(), -1000);
        due("house() of one", told(x, "s1;"), 1);
        due("house() of nothing behind it", x.house(), -1000);
        due("house() of ;", told(x, ";"), -1000);
    }

    /** "96 at most". */
    private static void ninetySix() {
        String many = "s1;".repeat(31);
        TrolleyAtEleven x = new TrolleyAtEleven();
        due("house() of 96", told(x, many + "s2;"), 32);
        due("count(5)", x.count(5), 2);
        due("house() of 99, the last three refused", told(x, many + "s3;s4;"), 32);
        due("count(5), they did not come", x.count(5), 3);
        due("count(16)", x.count(16), 3);
        due("house() of 96, longer statements", told(x, "u0000;".repeat(15) + "s1;s1;"), 17);
        due("house() of 97, the last it needs refused", told(x, "u0000;".repeat(15) + "fo0010;"), -1096);
        ninetySixAtFault("s1;".repeat(30));
    }

    private static void ninetySixAtFault(String ninety) {
        TrolleyAtEleven x = new TrolleyAtEleven();
        due("95 letters", told(x, ninety + "r000;"), 31);
        due("95 letters, a ; lacks", told(x, ninety + "s1;s1"), -1095);
        due("96 letters, a ; lacks", told(x, ninety + "fo0010"), -1096);
        due("96 letters, the last wrong", told(x, ninety + "s1;s1s"), -1095);
        due("96 letters, the first wrong", told(x, ";" + ninety + "s1;s1"), -1000);
        TrolleyAtEleven y = new TrolleyAtEleven();
        due("94 letters, the last statement not as it must be", told(y, ninety + "g20;"), -2090);
        due("96 letters, the last statement not as it must be", told(y, ninety + "u4100;"), -2090);
    }

    /** "else kind 2": a letter wrong behind a number out of range is told first. */
    private static void firstKindFirst() {
        TrolleyAtEleven x = new TrolleyAtEleven();
        due("wrong number, then a letter that cannot be", told(x, "g20;q"), -1004);
        due("wrong number, then the end", told(x, "g20;s"), -1005);
        due("wrong number and no end", told(x, "g20"), -1003);
        due("wrong number and a wrong end", told(x, "g20:"), -1003);
        due("wrong floor, wrong number, then a letter", told(x, "x00;g20;s1;;"), -1011);
        due("two wrong letters, the first is told", told(x, "s1;q;z"), -1003);
        due("wrong numbers, the first statement is told", told(x, "s1;g20;u4100;"), -2003);
        due("wrong numbers, the first statement is told", told(x, "s1;u4100;g20;"), -2003);
        due("wrong at its last number, the statement's first letter is told", told(x, "s1;b000061;"), -2003);
        due("wrong floor, then a wrong number", told(x, "x01;g20;"), -2000);
    }

    /** "a number out of range": each number of two digits, each of one. */
    private static void eachNumber() {
        for (int v = 0; v <= 99; v++) {
            String two = (v < 10 ? "0" : "") + v;
            number("u" + two + "55;", 0, v, 40);
            number("u22" + two + ";", 1, v, 99);
            number("b" + two + "1122;", 2, v, 60);
            number("b11" + two + "22;", 3, v, 60);
            number("b1122" + two + ";", 4, v, 60);
            number("r1" + two + ";", 9, v, 20);
            people(two, v);
        }
        for (int v = 0; v <= 9; v++) {
            number("s" + v + ";", 5, v, 9);
            number("g" + v + "5;", 6, v, 1);
            number("g1" + v + ";", 7, v, 9);
            number("r" + v + "05;", 8, v, 2);
            TrolleyAtEleven x = housed("fo" + v + "10" + v + ";");
            due("LEVEL " + v, x.story(0, 1), v);
            due("CHAT " + v, x.story(0, 3), v);
        }
    }

    private static void number(String statement, int what, int v, int most) {
        TrolleyAtEleven x = new TrolleyAtEleven();
        int was = new TrolleyAtEleven().set(what, 0);
        boolean comes = v <= most;
        due("house() of " + statement, told(x, statement), comes ? 1 : -2000);
        due("house() of " + statement + ", then set(" + what + ")", x.set(what, 0), comes ? v : was);
        due("house() of s1; and " + statement, told(x, "s1;" + statement), comes ? 2 : -2003);
    }

    private static void people(String two, int v) {
        TrolleyAtEleven x = new TrolleyAtEleven();
        boolean comes = v >= 1 && v <= 20;
        due("PEOPLE " + two, told(x, "fo4" + two + "0;"), comes ? 1 : -2000);
        due("PEOPLE " + two + ", then floors", x.count(0), comes ? 1 : 0);
        due("PEOPLE " + two + ", then all people", x.count(1), comes ? v : 0);
    }

    /** "no such FLOOR ahead of it, one twice": each pair, with each number of floors, told at once or earlier. */
    private static void eachPair() {
        for (int floors = 0; floors <= 6; floors++) {
            String ahead = "fo0010;".repeat(floors);
            for (int one = 0; one <= 9; one++) {
                for (int other = 0; other <= 9; other++) {
                    pair(new TrolleyAtEleven(), ahead, floors, one, other, ahead.length());
                    if (floors > 0) pair(housed(ahead), "", floors, one, other, 0);
                }
            }
        }
    }

    private static void pair(TrolleyAtEleven x, String ahead, int floors, int one, int other, int place) {
        String text = ahead + "x" + one + other + ";";
        boolean comes = one < floors && other < floors && one != other;
        int statements = ahead.length() / 7 + 1;
        due("house() of " + text, told(x, text), comes ? statements : -2000 - place);
        if (!comes) return;
        for (int i = 0; i < floors; i++) {
            int want = i == one ? other : i == other ? one : i;
            due("house() of " + text + ", then place(" + i + ")", x.place(i), want);
        }
    }

    /** "behind all ahead of it in the text": a floor behind is none yet. */
    private static void aheadOfIt() {
        due("x ahead of both", told(new TrolleyAtEleven(), "x01;fo0010;fo0010;"), -2000);
        due("x ahead of one", told(new TrolleyAtEleven(), "fo0010;x01;fo0010;"), -2007);
        due("x behind both", told(new TrolleyAtEleven(), "fo0010;fo0010;x01;"), 3);
        due("x ahead of the sixth", told(new TrolleyAtEleven(), "fo0010;".repeat(5) + "x05;fo0010;"), -2035);
        due("x behind the sixth", told(new TrolleyAtEleven(), "fo0010;".repeat(6) + "x05;"), 7);
        TrolleyAtEleven x = housed("fo0010;fo1010;x10;");
        due("floors change, not places", told(x, "fo2010;x02;x01;"), 3);
        // 1 0, then 1 0 2, then 1 2 0, then 0 2 1.
        int[] order = {0, 2, 1};
        for (int i = 0; i < 3; i++) due("place(" + i + ")", x.place(i), order[i]);
        for (int i = 0; i < 3; i++) due("story(" + order[i] + ", 4)", x.story(order[i], 4), i);
    }

    /** "no room for more": so many floors there, so many told. */
    private static void noRoom() {
        for (int there = 0; there <= 6; there++) {
            for (int more = 1; more <= 7; more++) {
                TrolleyAtEleven x = new TrolleyAtEleven();
                if (there > 0) told(x, "fo1010;".repeat(there));
                boolean comes = there + more <= 6;
                String call = more + " floors more than " + there;
                due(call, told(x, "fm2020;".repeat(more)), comes ? more : -2000 - 7 * (6 - there));
                due(call + ", count(0)", x.count(0), comes ? there + more : there);
            }
        }
        TrolleyAtEleven x = housed(SIX);
        due("six, and another statement", told(x, "s7;"), 1);
        due("a seventh behind another statement", told(x, "s8;fo0010;"), -2003);
        due("count(5), nothing of it came", x.count(5), 7);
    }

    /** "Without FAULT all of it comes, with one nothing"; "(with a FAULT neither)"; "(nothing is counted)". */
    private static void allOrNothing() {
        String told = "fd3040;u3170;b414243;s6;g15;r213;x02;";
        for (String fault : new String[] {"q", "s", "g20;", "x33;", "fo0000;"}) {
            TrolleyAtEleven x = housed(TWO);
            x.row(3);
            String before = seen(x);
            due("FAULT in " + told + fault, told(x, told + fault) < 0 ? 1 : 0, 1);
            due("FAULT in " + told + fault + ", then all as before", seen(x).equals(before) ? 1 : 0, 1);
            settings(x, 40, 90, 10, 10, 10, 4, 0, 1, 1, 0);
            for (int r = 11; r <= 16; r++) due("count(" + r + ")", x.count(r), 0);
            due("count(9), the letters are no more", x.count(9), 0);
            due("house(), the letters are no more", x.house(), -1000);
            due("without FAULT", told(x, told), 7);
            settings(x, 31, 70, 41, 42, 43, 6, 1, 5, 2, 13);
            int[] order = {2, 1, 0};
            for (int i = 0; i < 3; i++) due("place(" + i + ")", x.place(i), order[i]);
            due("count(8), the row stays", x.count(8), 1);
            due("count(9), the letters are no more", x.count(9), 0);
        }
    }

    /** "how many STATEMENTS": 1 to 32 of them. */
    private static void howMany() {
        for (int n = 1; n <= 32; n++) due("house() of " + n, told(new TrolleyAtEleven(), "s1;".repeat(n)), n);
        due("house() of each", told(housed(TWO), String.join("", STATEMENTS)), 7);
        due("a statement again, the last counts", housed("u1020;u3040;s1;s2;").set(0, 0), 30);
    }

    /** "a FLOOR more, last in ORDER", also if the order is another by then. */
    private static void lastInOrder() {
        TrolleyAtEleven x = housed("fo1010;fm2020;x01;ft3033;");
        int[] want = {1, 0, 2};
        for (int i = 0; i < 3; i++) due("place(" + i + ")", x.place(i), want[i]);
        x.change(0, 2);
        due("house() of one more", told(x, "fq9204;"), 1);
        due("place(3)", x.place(3), 3);
        int[] last = {5, 9, 20, 4, 3};
        for (int what = 0; what < 5; what++) due("story(3, " + what + ")", x.story(3, what), last[what]);
        String kinds = "omtdgq";
        for (int k = 0; k < 6; k++) due("KIND " + kinds.charAt(k), housed("f" + kinds.charAt(k) + "0010;").story(0, 0), k);
    }

    public static void main(String[] args) {
        run("\"first letter with which no HOUSE can go on\"", HouseTests::eachLetter);
        run("\"STATEMENTS\", their heads", HouseTests::eachHead);
        run("\"the end, if something lacks\"", HouseTests::cut);
        run("\"At least one STATEMENT\"", HouseTests::atLeastOne);
        run("\"96 at most\"", HouseTests::ninetySix);
        run("\"else kind 2\"", HouseTests::firstKindFirst);
        run("\"a number out of range\"", HouseTests::eachNumber);
        run("\"no such FLOOR ahead of it, one twice\"", HouseTests::eachPair);
        run("\"behind all ahead of it in the text\"", HouseTests::aheadOfIt);
        run("\"no room for more\"", HouseTests::noRoom);
        run("\"Without FAULT all of it comes, with one nothing\"", HouseTests::allOrNothing);
        run("\"how many STATEMENTS\"", HouseTests::howMany);
        run("\"a FLOOR more, last in ORDER\"", HouseTests::lastInOrder);
        end();
    }
}
