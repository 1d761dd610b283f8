import java.util.function.LongSupplier;

/** For each promise: ordinary inputs, the edges that the document names, and wrong inputs. */
public final class PromiseTests extends Checks {
    /** The call answers so and counts; that it changes nothing else is seen in RefusalTests. */
    private static void refused(TrolleyAtEleven x, String call, LongSupplier calling, int refusal, long answer) {
        int before = x.count(10 - refusal);
        due(call, calling.getAsLong(), answer);
        due(call + ", then count(" + (10 - refusal) + ")", x.count(10 - refusal), before + 1);
    }

    private static void refused(TrolleyAtEleven x, String call, LongSupplier calling, int refusal) {
        refused(x, call, calling, refusal, refusal);
    }

    private static void newObject() {
        TrolleyAtEleven x = new TrolleyAtEleven();
        int[] want = {0, 0, 30, 40, 90, 4, 0, 1, 0, 0};
        for (int what = 0; what < want.length; what++) due("count(" + what + ")", x.count(what), want[what]);
        int[] first = {40, 90, 10, 10, 10, 4, 0, 1, 1, 0};
        for (int what = 0; what < first.length; what++) due("set(" + what + ")", x.set(what, first[what]), first[what]);
        for (int r = 11; r <= 16; r++) due("count(" + r + ")", x.count(r), 0);
        due("on()", x.on(), -3);
    }

    private static void letter() {
        TrolleyAtEleven x = new TrolleyAtEleven();
        due("letter(0)", x.letter(0), 1);
        due("letter(255)", x.letter(255), 2);
        for (int c : new int[] {-1, LEAST}) refused(x, "letter(" + c + ")", () -> x.letter(c), -4);
        for (int c : new int[] {256, GREATEST}) refused(x, "letter(" + c + ")", () -> x.letter(c), -6);
        for (int i = 3; i <= 96; i++) due("letter(59)", x.letter(59), i);
        refused(x, "letter(59), the 97th", () -> x.letter(59), -6);
        refused(x, "letter(-1), the 97th", () -> x.letter(-1), -4);
        due("house()", x.house(), -1000);
        due("letter(59)", x.letter(59), 1);
    }

    private static void houseTold() {
        due("all statements", told(new TrolleyAtEleven(), "u0799;b606059;s0;g19;r120;fo9209;fq0010;x10;"), 8);
        TrolleyAtEleven x = housed("u0798;b605958;s3;g15;r216;fd9209;ft0010;x10;");
        int[] want = {7, 98, 60, 59, 58, 3, 1, 5, 2, 16};
        for (int what = 0; what < want.length; what++) due("set(" + what + ")", x.set(what, 0), want[what]);
        due("place(0)", x.place(0), 1);
        due("place(1)", x.place(1), 0);
        due("story(0, 0)", x.story(0, 0), 3);
        due("story(0, 2)", x.story(0, 2), 20);
        due("count(9)", x.count(9), 0);
        due("more of it", told(x, "fm1111;x20;x20;x21;"), 4);
        due("count(0)", x.count(0), 3);
        due("place(0)", x.place(0), 2);
        due("place(1)", x.place(1), 0);
        due("place(2)", x.place(2), 1);
        due("the last counts", told(x, "s1;s2;s3;u1010;s4;"), 5);
        due("count(5)", x.count(5), 4);
        due("as long as can be", told(new TrolleyAtEleven(), SIX + "x01;".repeat(12) + "s1;s2;"), 20);
    }

    private static void houseFirstKind() {
        String[] texts = {"", ";", "F", "f", "fO", "fo", "fo:", "fo4", "fo41", "fo41x", "fo412", "fo4122", "fo4122,",
            "u", "u/", "u4090", "u40900;", "b101010", "b1010100", "s", "sa;", "s1", "s12", "g1;", "g123", "r12;",
            "r1200;", "x1;", "x012", "s1;;", "s1; s2;", "s1;s", "u9999;q", "fo9999;fo0", "z", "s1;f;"};
        int[] places = {0, 0, 0, 1, 1, 2, 2, 3, 4, 4, 5, 6, 6,
            1, 1, 5, 5, 7, 7, 1, 1, 2, 2, 2, 3, 3,
            4, 2, 3, 3, 3, 4, 6, 10, 0, 4};
        for (int i = 0; i < texts.length; i++) {
            TrolleyAtEleven x = housed("fo1111;s5;");
            String before = seen(x);
            due("house() of " + texts[i], told(x, texts[i]), -1000 - places[i]);
            due("house() of " + texts[i] + ", then all as before", seen(x).equals(before) ? 1 : 0, 1);
            for (int r = 11; r <= 16; r++) due("count(" + r + ")", x.count(r), 0);
        }
        TrolleyAtEleven y = new TrolleyAtEleven();
        y.letter('s');
        y.letter(255);
        due("house() of s and 255", y.house(), -1001);
        due("house() of 96 letters", told(y, "s1;".repeat(31) + "s1s"), -1095);
        due("house() of 96 letters that lack one", told(y, "s1;".repeat(30) + "fo0010"), -1096);
    }

    private static void houseSecondKind() {
        String[] texts = {"fo0000;", "fo0210;", "fo0990;", "u4100;", "u9999;", "b610000;", "b006100;", "b000061;",
            "g20;", "g90;", "r300;", "r021;", "r099;", "x00;", "x01;", "x10;", "x05;", "s1;g30;", "s1;s2;x01;",
            "fo0010;fo0010;x11;", "x01;fo0010;fo0010;", "fo0010;fo0010;fo0010;fo0010;fo0010;fo0010;fo0010;",
            "fo0010;fo0010;x02;", "s1;u4100;g90;"};
        int[] places = {0, 0, 0, 0, 0, 0, 0, 0,
            0, 0, 0, 0, 0, 0, 0, 0, 0, 3, 6,
            14, 0, 42,
            14, 3};
        for (int i = 0; i < texts.length; i++) {
            TrolleyAtEleven x = housed("s5;");
            String before = seen(x);
            due("house() of " + texts[i], told(x, texts[i]), -2000 - places[i]);
            due("house() of " + texts[i] + ", then all as before", seen(x).equals(before) ? 1 : 0, 1);
            for (int r = 11; r <= 16; r++) due("count(" + r + ")", x.count(r), 0);
        }
        TrolleyAtEleven y = housed(SIX);
        due("a seventh floor", told(y, "s1;fo0010;"), -2003);
        due("count(5)", y.count(5), 4);
        due("x of floors that were", told(y, "x05;"), 1);
        due("place(0)", y.place(0), 5);
        due("x of a sixth place", told(y, "x06;"), -2000);
    }

    private static void story() {
        TrolleyAtEleven x = housed("fo4122;fm7091;ft2153;fd9040;fg1120;fq5089;x05;");
        int[][] want = {{0, 4, 12, 2, 5}, {1, 7, 9, 1, 1}, {2, 2, 15, 3, 2}, {3, 9, 4, 0, 3}, {4, 1, 12, 0, 4},
            {5, 5, 8, 9, 0}};
        for (int floor = 0; floor < 6; floor++) {
            for (int what = 0; what < 5; what++) {
                due("story(" + floor + ", " + what + ")", x.story(floor, what), want[floor][what]);
            }
        }
        for (int floor : new int[] {-1, 6, LEAST, GREATEST}) refused(x, "story(" + floor + ")", () -> x.story(floor, 9), -1);
        for (int what : new int[] {-1, 5, LEAST, GREATEST}) refused(x, "story(0, " + what + ")", () -> x.story(0, what), -2);
    }

    private static void place() {
        TrolleyAtEleven x = housed("fo4122;fm7091;ft2153;x02;");
        due("place(0)", x.place(0), 2);
        due("place(1)", x.place(1), 1);
        due("place(2)", x.place(2), 0);
        for (int i : new int[] {-1, 3, LEAST, GREATEST}) refused(x, "place(" + i + ")", () -> x.place(i), -1);
    }

    private static void change() {
        TrolleyAtEleven x = housed("fo4122;fm7091;ft2153;");
        due("change(0, 2)", x.change(0, 2), 2);
        due("change(1, 0)", x.change(1, 0), 2);
        due("place(0)", x.place(0), 2);
        due("place(1)", x.place(1), 0);
        due("place(2)", x.place(2), 1);
        int[][] pairs = {{-1, 0}, {0, -1}, {3, 0}, {0, 3}, {1, 1}, {LEAST, GREATEST}};
        for (int[] p : pairs) refused(x, "change(" + p[0] + ", " + p[1] + ")", () -> x.change(p[0], p[1]), -1);
    }

    private static void people() {
        TrolleyAtEleven x = housed("fo4122;fm7091;");
        due("people(1, 20)", x.people(1, 20), 9);
        due("people(1, 1)", x.people(1, 1), 20);
        due("story(1, 2)", x.story(1, 2), 1);
        due("story(0, 2)", x.story(0, 2), 12);
        for (int floor : new int[] {-1, 2, LEAST, GREATEST}) refused(x, "people(" + floor + ", 0)", () -> x.people(floor, 0), -1);
        for (int v : new int[] {0, -1, LEAST}) refused(x, "people(0, " + v + ")", () -> x.people(0, v), -4);
        for (int v : new int[] {21, GREATEST}) refused(x, "people(0, " + v + ")", () -> x.people(0, v), -6);
    }

    private static void set() {
        TrolleyAtEleven x = housed("fo4122;fm7091;");
        int[] most = {40, 99, 60, 60, 60, 9, 1, 9, 2, 20};
        for (int what = 0; what < most.length; what++) {
            int w = what;
            x.set(w, most[w]);
            due("set(" + w + ", 0)", x.set(w, 0), most[w]);
            due("set(" + w + ", 1)", x.set(w, 1), 0);
            refused(x, "set(" + w + ", -1)", () -> x.set(w, -1), -4);
            refused(x, "set(" + w + ", most + 1)", () -> x.set(w, most[w] + 1), -6);
            refused(x, "set(" + w + ", greatest)", () -> x.set(w, GREATEST), -6);
            due("set(" + w + ", 1) again", x.set(w, 1), 1);
        }
        for (int what : new int[] {-1, 10, LEAST, GREATEST}) refused(x, "set(" + what + ", -1)", () -> x.set(what, -1), -2);
    }

    private static void come() {
        TrolleyAtEleven x = housed("fo0090;fm0090;ft0090;fd0090;fg0090;fq0090;");
        int[] early = {9, 0, 5, 9, 5, 0};
        int[] later = {9, 9, 5, 9, 5, 9};
        for (int floor = 0; floor < 6; floor++) {
            due("come(" + floor + ", 0)", x.come(floor, 0), early[floor]);
            due("come(" + floor + ", 9)", x.come(floor, 9), early[floor]);
            due("come(" + floor + ", 10)", x.come(floor, 10), later[floor]);
            due("come(" + floor + ", 999)", x.come(floor, 999), later[floor]);
        }
        x.people(2, 10);
        due("come(2, 0) of 10", x.come(2, 0), 5);
        for (int floor : new int[] {-1, 6, LEAST, GREATEST}) refused(x, "come(" + floor + ", -1)", () -> x.come(floor, -1), -1);
        for (int m : new int[] {-1, LEAST}) refused(x, "come(0, " + m + ")", () -> x.come(0, m), -4);
        for (int m : new int[] {1000, GREATEST}) refused(x, "come(0, " + m + ")", () -> x.come(0, m), -6);
    }

    private static void going() {
        TrolleyAtEleven x = new TrolleyAtEleven();
        due("going(0, 9)", x.going(0, 9), 10);
        due("going(7, 5)", x.going(7, 5), 3);
        due("going(5, 5)", x.going(5, 5), 0);
        due("going(9, 0)", x.going(9, 0), 10);
        x.set(7, 9);
        due("going(7, 5) of a slow lift", x.going(7, 5), 11);
        due("going(5, 5) of a slow lift", x.going(5, 5), 0);
        x.set(6, 1);
        due("going(7, 5) by the ramp", x.going(7, 5), 6);
        due("going(0, 9) by the ramp", x.going(0, 9), 27);
        due("going(5, 5) by the ramp", x.going(5, 5), 0);
        int[][] below = {{-1, 0}, {0, -1}, {10, -1}, {-1, 10}, {LEAST, GREATEST}};
        for (int[] p : below) refused(x, "going(" + p[0] + ", " + p[1] + ")", () -> x.going(p[0], p[1]), -4);
        int[][] room = {{10, 0}, {0, 10}, {GREATEST, GREATEST}};
        for (int[] p : room) refused(x, "going(" + p[0] + ", " + p[1] + ")", () -> x.going(p[0], p[1]), -6);
    }

    /** She is there at 2, serves 11 in 6 and 4 minutes, goes 3 more, is at the greedy at 15, who take 3 each. */
    private static void total() {
        totals(new TrolleyAtEleven(), 0, 0, 0, 0, 0, 0, 0, 0);
        TrolleyAtEleven x = housed("fo3114;fg1090;b080302;");
        totals(x, 18, 16, 0, 0, 8, 4 + 11 - 11, 2 * 11 + 5 * 15, 18 + 3 * 4);
        x.set(9, 5);
        totals(x, 18, 16, 0, 0, 8, 3 + 3, 97, 18 + 3 * 6);
        x.set(1, 59);
        totals(x, 18, 16, 0, 16, 8, 6, 97, 18 + 2 * 16 + 3 * 6);
        x.set(0, 9);
        x.set(8, 0);
        // She has done with the office at 11, and is at the greedy at 14 with an empty urn.
        totals(x, 14, 9, 7, 9, 3, 9 - 8, 2 * 11 + 5 * 14, 14 + 18 + 3 + 28);
        refusedTotals(x);
    }

    private static void refusedTotals(TrolleyAtEleven x) {
        for (int what : new int[] {-1, 8, LEAST, GREATEST}) {
            refused(x, "total(" + what + ")", () -> x.total(what), -2);
            refused(x, "best(" + what + ")", () -> x.best(what), -2);
            refused(x, "bestAt(" + what + ", -1)", () -> x.bestAt(what, -1), -2);
        }
    }

    private static void kinds() {
        due("an office", housed("fo4113;").total(0), 6 + 3);
        due("a telephone", housed("ft4113;").total(0), 3 + 3);
        due("a director", housed("fd4113;").total(0), 6 + 3 + 2);
        due("a greedy one", housed("fg4113;").total(0), 3 + 3);
        due("a meeting too early", housed("fm4113;").total(0), 3);
        due("a quick one too early", housed("fq4113;").total(0), 1);
        due("a meeting", housed("fm4113;g19;s0;").total(0), 12 + 6 + 3);
        due("a quick one", housed("fq4113;g19;s0;").total(0), 12 + 4);
        due("none at a director", housed("fd4113;u0090;r000;").total(0), 5);
        due("none at a director, missed", housed("fd4113;u0090;r000;").total(2), 11);
        due("none, standing", housed("fd5113;u0090;r000;").total(6), 22);
    }

    private static void filling() {
        TrolleyAtEleven x = housed("fo4200;fo4200;fo4200;u2180;b606060;");
        int[] minutes = {0, 10, 31};
        int[] warms = {80, 90, 90 - 2};
        for (int i = 0; i < 3; i++) {
            due("at(" + i + ", 0)", x.at(i, 0), minutes[i]);
            due("at(" + i + ", 1)", x.at(i, 1), warms[i]);
            due("at(" + i + ", 2)", x.at(i, 2), 20);
        }
        due("standing", x.total(6), 20 * 21 + 20 * 31);
        x.set(8, 2);
        int[] halfMinutes = {0, 10, 26};
        int[] halfWarms = {80, (78 + 90) / 2, ((84 - 2) + 90) / 2};
        for (int i = 0; i < 3; i++) {
            due("at(" + i + ", 0) by halves", x.at(i, 0), halfMinutes[i]);
            due("at(" + i + ", 1) by halves", x.at(i, 1), halfWarms[i]);
            due("at(" + i + ", 2) by halves", x.at(i, 2), 20);
        }
        due("standing by halves", x.total(6), 20 * 16 + 20 * 32);
        x.set(1, 2);
        x.set(8, 0);
        due("warm no more", x.at(2, 1), 0);
        due("served no more", x.at(2, 2), 0);
        due("one at the second", x.at(1, 2), 1);
        TrolleyAtEleven y = housed("fo4200;fo4200;fo4010;u0080;b606060;");
        due("at(1, 0), 40 cups in all", y.at(1, 0), 21);
        due("at(2, 1), filled again", y.at(2, 1), 90);
        TrolleyAtEleven z = housed("fo4010;fo4200;u0081;b606060;r200;");
        // Filled at 6, at the second at 7 with 19.
        due("at(0, 1), half of 171", z.at(0, 1), 85);
        due("at(1, 1), half of 175", z.at(1, 1), 87);
        due("at(1, 0)", z.at(1, 0), 7);
        z.people(1, 19);
        due("at(1, 1), 20 more were enough", z.at(1, 1), 85);
        z.set(1, 82);
        due("at(0, 1), half of 172", z.at(0, 1), 86);
        due("no filling when just enough", housed("fo4200;u2010;").at(0, 1), 10);
        due("filling when one too few", housed("fo4200;u1910;").at(0, 1), 90);
    }

    private static void at() {
        filling();
        TrolleyAtEleven x = housed("fo4090;fo8090;b150101;r104;x01;");
        due("at(0, 0)", x.at(0, 0), 5);
        due("at(0, 1)", x.at(0, 1), 89);
        due("at(0, 2)", x.at(0, 2), 9);
        due("at(0, 3)", x.at(0, 3), 9);
        due("at(1, 0)", x.at(1, 0), 15);
        due("at(1, 1)", x.at(1, 1), 87);
        due("at(1, 3)", x.at(1, 3), 6);
        x.set(9, 20);
        due("at(0, 3) if all is kept", x.at(0, 3), 0);
        due("at(1, 3) if all is kept", x.at(1, 3), 9);
        x.set(9, 14);
        due("at(0, 3) if all but one is kept", x.at(0, 3), 1);
        for (int i : new int[] {-1, 2, LEAST, GREATEST}) refused(x, "at(" + i + ", 9)", () -> x.at(i, 9), -1);
        for (int what : new int[] {-1, 4, LEAST, GREATEST}) refused(x, "at(0, " + what + ")", () -> x.at(0, what), -2);
    }

    private static void when() {
        TrolleyAtEleven x = housed("fo4090;fo8090;x01;");
        due("when(1)", x.when(1), 5);
        due("when(0)", x.when(0), 15);
        for (int floor : new int[] {-1, 2, LEAST, GREATEST}) refused(x, "when(" + floor + ")", () -> x.when(floor), -1);
    }

    private static void best() {
        TrolleyAtEleven none = new TrolleyAtEleven();
        for (int what = 0; what < 8; what++) due("best(" + what + ") of none", none.best(what), 0);
        refused(none, "bestAt(0, 0) of none", () -> none.bestAt(0, 0), -1);
        TrolleyAtEleven x = housed("fo9010;fm0010;fo5010;x12;");
        // 1 at 5 with nobody, 2 at 11, 0 at 17; shorter than 2 at 2, 0 at 8, 1 at 19.
        due("best(0)", x.best(0), 18);
        bestOrder(x, 0, 1, 2, 0);
        due("best(1)", x.best(1), 3);
        bestOrder(x, 1, 0, 1, 2);
        // 2 at 2, 1 at 9 with nobody, 0 at 19.
        due("best(6)", x.best(6), 2 + 19);
        bestOrder(x, 6, 2, 1, 0);
        due("best(3)", x.best(3), 0);
        bestOrder(x, 3, 0, 1, 2);
        due("place(1), nothing changes", x.place(1), 2);
        for (int i : new int[] {-1, 3, LEAST, GREATEST}) refused(x, "bestAt(0, " + i + ")", () -> x.bestAt(0, i), -1);
        refusedTotals(x);
        TrolleyAtEleven y = housed("fo4050;ft4020;b100000;r010;");
        due("total(4) if all is kept", y.total(4), 1);
        due("best(4), the most", y.best(4), 5);
        bestOrder(y, 4, 1, 0);
        due("best(5), the least", y.best(5), 1);
        bestOrder(y, 5, 1, 0);
        TrolleyAtEleven z = housed("fo4050;ft4020;u0559;r000;");
        due("best(2)", z.best(2), 1);
        bestOrder(z, 2, 0, 1);
        due("best(3)", z.best(3), 5);
        // 5 served in 3 minutes, or 1 in 1 and 4 in 2; 1 missed and 5 cold either way.
        due("best(7)", z.best(7), 3 + 10 + 4);
    }

    private static void turned() {
        TrolleyAtEleven none = new TrolleyAtEleven();
        due("most() of none", none.most(), 0);
        refused(none, "turned(0) of none", () -> none.turned(0), -1);
        TrolleyAtEleven x = housed("fo4100;fo4100;ft4017;u4061;x01;");
        // Day 0: 1 at 0, 0 at 5, 2 at 10; day 1: 0, 2 at 5, 1 at 13; day 2: 2, 1 at 8, 0 at 13.
        due("turned(0)", x.turned(0), 1);
        due("turned(1)", x.turned(1), 2);
        due("turned(2)", x.turned(2), 1);
        due("most()", x.most(), 2);
        x.set(1, 59);
        for (int floor = 0; floor < 3; floor++) due("turned(" + floor + ") of cold tea", x.turned(floor), 3);
        due("most() of cold tea", x.most(), 3);
        due("most() of one floor", housed("fo4010;u4059;").most(), 1);
        x.set(0, 0);
        x.set(8, 0);
        for (int floor = 0; floor < 3; floor++) due("turned(" + floor + ") of none served", x.turned(floor), 0);
        due("most() of none served", x.most(), 0);
        for (int floor : new int[] {-1, 3, LEAST, GREATEST}) refused(x, "turned(" + floor + ")", () -> x.turned(floor), -1);
    }

    private static void enough() {
        due("enough(0) of none", new TrolleyAtEleven().enough(0), 0);
        TrolleyAtEleven x = housed("fo4200;fo4200;b000300;");
        due("enough(0)", x.enough(0), 37);
        due("enough(1)", x.enough(1), 40);
        due("enough(2)", x.enough(2), 37);
        x.set(9, 20);
        due("enough(0) if some are kept", x.enough(0), 37);
        x.set(3, 0);
        due("enough(0) if more are kept", x.enough(0), 40);
        due("enough(1) if some are kept", x.enough(1), 40);
        due("count(2)", x.count(2), 0);
        TrolleyAtEleven y = housed("fo4200;fo4200;fo4200;fo4200;b000000;");
        due("enough(0) of too many", y.enough(0), -9);
        due("enough(1) of too many", y.enough(1), -9);
        y.set(2, 20);
        due("enough(1) up to the greatest", y.enough(1), 60);
        y.set(2, 19);
        due("enough(1) of one too many", y.enough(1), -9);
        due("enough(2) of greedy ones", housed("fg4090;b000000;").enough(2), 13);
        for (int sort : new int[] {-1, 3, LEAST, GREATEST}) refused(x, "enough(" + sort + ")", () -> x.enough(sort), -2);
    }

    private static void fill() {
        due("fill() of none", new TrolleyAtEleven().fill(), 0);
        TrolleyAtEleven x = housed("fo4050;u0090;");
        // 0: 5 missed, 20; 1: 11 and 3; 2: 6 and 3.
        due("fill()", x.fill(), 2);
        x.set(1, 0);
        // 2: cold by 45 degrees: 9 and 10.
        due("fill() of cold tea", x.fill(), 1);
        due("fill() if there is enough", housed("fo4050;").fill(), 0);
        due("count(7), nothing changes", x.count(7), 1);
    }

    private static void ramp() {
        due("ramp() of none", new TrolleyAtEleven().ramp(), 0);
        TrolleyAtEleven x = housed("fo5010;g05;");
        due("ramp() of a slow lift", x.ramp(), 1);
        x.set(7, 2);
        due("ramp() if both are alike", x.ramp(), 0);
        x.set(6, 1);
        due("ramp() if both are alike, by the ramp", x.ramp(), 0);
        x.set(7, 1);
        due("ramp() of a quick lift", x.ramp(), 0);
        due("count(6), nothing changes", x.count(6), 1);
    }

    private static void keep() {
        TrolleyAtEleven x = new TrolleyAtEleven();
        due("keep(0) of none", x.keep(0), 0);
        due("keep(1) of none", x.keep(1), 0);
        TrolleyAtEleven y = housed("fo4080;fo4050;");
        due("keep(0)", y.keep(0), 5);
        due("keep(1)", y.keep(1), 5);
        y.set(2, 20);
        due("keep(0) of many", y.keep(0), 0);
        due("keep(1) of many", y.keep(1), 5);
        y.set(2, 3);
        y.set(9, 17);
        due("keep(0) of few", y.keep(0), 3);
        due("keep(1) of few", y.keep(1), 3);
        due("nothing changes", y.set(9, 17), 17);
        TrolleyAtEleven z = housed("fo4200;fg4200;b600000;");
        due("keep(0) of greedy ones", z.keep(0), 0);
        due("keep(1) of greedy ones", z.keep(1), 30);
        // The first takes 30 of 40, or leaves as many as are kept.
        TrolleyAtEleven most = housed("fg4200;fg4200;b400000;");
        due("keep(0) up to the greatest", most.keep(0), 20);
        due("keep(1) up to the greatest", most.keep(1), 20);
        for (int what : new int[] {-1, 2, LEAST, GREATEST}) refused(y, "keep(" + what + ")", () -> y.keep(what), -2);
    }

    private static void oneEach() {
        due("oneEach() of none", new TrolleyAtEleven().oneEach(), 0);
        TrolleyAtEleven x = housed("fg4080;fo4080;b100000;");
        // 4 greedy ones take all 10, 8 of the office have none; one each: 4, and 6 of 8.
        due("oneEach()", x.oneEach(), 6);
        x.set(9, 2);
        // 3 of 4 greedy ones take 8 and leave 2 to 8; one each: 4, and 6 of 8.
        due("oneEach() if some are kept", x.oneEach(), 1 + 6 - 2);
        due("oneEach() of too few", housed("fg4080;fo4080;b020000;").oneEach(), 11 - 10);
        due("oneEach() of just enough", housed("fg4080;b040000;").oneEach(), 2);
        due("oneEach() of plenty", housed("fg4080;").oneEach(), 0);
        due("oneEach() of offices", housed("fo4080;b000000;").oneEach(), 0);
        due("nothing changes", x.total(5), 7);
    }

    private static void machine() {
        due("machine() of none", new TrolleyAtEleven().machine(), 0);
        TrolleyAtEleven x = housed("fo0050;ft9070;fm3020;");
        due("machine()", x.machine(), 5 + 7 * 19 + 2 * 7);
        due("saves() of none", new TrolleyAtEleven().saves(), 0);
        // At 0 in 5 minutes, 3 to serve; at 9 at 18, 4 come, 2 to serve; at 3 at 27.
        due("saves()", x.saves(), 152 - 5 * 5 - 4 * 18 - 2 * 27);
        TrolleyAtEleven y = housed("fo9200;fo0200;");
        due("saves() below 0", y.saves(), 20 * 19 + 20 - 20 * 6 - 20 * 26);
        due("saves() below 0", y.saves(), -240);
    }

    private static void late() {
        TrolleyAtEleven none = new TrolleyAtEleven();
        due("late(0, 0) of none", none.late(0, 0), 0);
        due("late(10, 1) of none", none.late(10, 1), 1);
        TrolleyAtEleven x = housed("fo9010;fo9010;fo8010;");
        // By the lift 6 and 2, by the ramp 15 and 3.
        for (int t = 0; t <= 10; t++) {
            due("late(" + t + ", 0)", x.late(t, 0), 8 + t);
            due("late(" + t + ", 1)", x.late(t, 1), 1);
        }
        x.set(7, 2);
        // By the lift 7 and 3.
        long[] above = {10, 54, 58, 62, 66, 14};
        long[] under = {1, 5, 5, 5, 5, 1};
        for (int t = 0; t <= 5; t++) {
            due("late(" + t + ", 0) of a slow lift", x.late(t, 0), above[t]);
            due("late(" + t + ", 1) of a slow lift", x.late(t, 1), under[t]);
        }
        x.set(7, 9);
        due("late(5, 0) of halves", x.late(5, 0), 21);
        due("late(5, 1) of halves", x.late(5, 1), 1);
        due("late(1, 0) of tenths", x.late(1, 0), 117);
        due("late(1, 1) of tenths", x.late(1, 1), 5);
        x.set(6, 1);
        due("late(1, 0) whichever way she goes now", x.late(1, 0), 117);
        due("late(1, 0) of one tenth", housed("fo5010;").late(1, 0), 21);
        due("late(1, 1) of one tenth", housed("fo5010;").late(1, 1), 10);
        due("late(5, 1) of a half", housed("fo5010;").late(5, 1), 2);
        due("late(5, 0) of a half", housed("fo5010;").late(5, 0), 5);
        for (int t : new int[] {-1, LEAST}) refused(x, "late(" + t + ", 9)", () -> x.late(t, 9), -4, FAR + 4);
        for (int t : new int[] {11, GREATEST}) refused(x, "late(" + t + ", 9)", () -> x.late(t, 9), -6, FAR + 6);
        for (int p : new int[] {-1, 2, LEAST}) refused(x, "late(0, " + p + ")", () -> x.late(0, p), -2, FAR + 2);
    }

    private static void more() {
        TrolleyAtEleven x = housed("fo4050;fo4050;u1390;r000;");
        due("more(0)", x.more(0), 3);
        due("more(1)", x.more(1), 3);
        x.set(0, 9);
        due("more(0) of too few cups", x.more(0), 0);
        x.set(8, 1);
        due("more(0) if she fills", x.more(0), 15);
        due("story(0, 2), nothing changes", x.story(0, 2), 5);
        x.people(0, 20);
        due("more(0) of 20", x.more(0), 0);
        TrolleyAtEleven y = housed("ft4050;u0390;r000;");
        due("more(0) of a telephone", y.more(0), 1);
        for (int floor : new int[] {-1, 2, LEAST, GREATEST}) refused(x, "more(" + floor + ")", () -> x.more(floor), -1);
        // 12 cups: 10 now leave 2 for 20 who come, 18 missed; with 13 or more she fills at the first floor.
        TrolleyAtEleven z = housed("fo4100;fo4200;u1290;r200;");
        due("more(0) of filling by halves", z.more(0), 10);
    }

    private static void squeak() {
        due("squeak(9) of none", new TrolleyAtEleven().squeak(9), 0);
        TrolleyAtEleven x = housed("fo5020;fo0030;fo9010;");
        // There at 2, 3 and 6, 9 and 2 and 10.
        int[] want = {27, 27, 27, 27, 27, 31, 31, 31, 31, 52};
        for (int s = 0; s <= 9; s++) due("squeak(" + s + ")", x.squeak(s), want[s]);
        due("total(6)", x.total(6), 52);
        for (int s : new int[] {-1, LEAST}) refused(x, "squeak(" + s + ")", () -> x.squeak(s), -4);
        for (int s : new int[] {10, GREATEST}) refused(x, "squeak(" + s + ")", () -> x.squeak(s), -6);
    }

    private static void row() {
        TrolleyAtEleven x = housed("fo5020;");
        for (int v : new int[] {-1, LEAST}) refused(x, "row(" + v + ")", () -> x.row(v), -4);
        for (int v : new int[] {100, GREATEST}) refused(x, "row(" + v + ")", () -> x.row(v), -6);
        due("row(0)", x.row(0), 1);
        due("row(99)", x.row(99), 2);
        for (int i = 3; i <= 12; i++) due("row(5)", x.row(5), i);
        refused(x, "row(5), the 13th", () -> x.row(5), -6);
        refused(x, "row(-1), the 13th", () -> x.row(-1), -4);
        due("count(8)", x.count(8), 12);
    }

    private static void fits() {
        TrolleyAtEleven x = housed("fo4020;fo4030;fo4020;x01;");
        due("fits(-1) of no row", x.fits(-1), 6);
        int[] all = {0, 1, 2};
        for (int i = 0; i < 3; i++) due("fits(" + i + ") of no row", x.fits(i), all[i]);
        x.row(3);
        due("fits(-1) of 3", x.fits(-1), 2);
        int[] three = {1, 0, 2};
        for (int i = 0; i < 3; i++) due("fits(" + i + ") of 3", x.fits(i), three[i]);
        due("count(8), the row stays", x.count(8), 1);
        x.row(2);
        x.row(2);
        due("fits(-1) of 3 2 2", x.fits(-1), 2);
        x.row(2);
        due("fits(-1) of 3 2 2 2", x.fits(-1), 0);
        for (int i = 0; i < 3; i++) due("fits(" + i + ") of 3 2 2 2", x.fits(i), -9);
        for (int i : new int[] {-2, LEAST}) refused(x, "fits(" + i + ")", () -> x.fits(i), -4);
        for (int i : new int[] {3, GREATEST}) refused(x, "fits(" + i + ")", () -> x.fits(i), -1);
        TrolleyAtEleven none = new TrolleyAtEleven();
        due("fits(-1) of none", none.fits(-1), 1);
        refused(none, "fits(0) of none", () -> none.fits(0), -1);
    }

    private static void judge() {
        TrolleyAtEleven x = housed("fo4020;fo4030;x01;");
        due("judge() of no row", x.judge(), -9);
        x.row(3);
        due("judge() of 3", x.judge(), -9);
        due("count(8), the row has none", x.count(8), 0);
        x.row(3);
        x.row(3);
        due("judge() of 3 3", x.judge(), 1);
        due("count(8), the row has none", x.count(8), 0);
        x.row(2);
        x.row(2);
        due("judge() of 2 2", x.judge(), 0);
        x.row(3);
        x.row(2);
        x.row(0);
        due("judge() of 3 2 0", x.judge(), 2);
        x.row(3);
        due("row(1) after it", x.row(2), 2);
        due("judge() of 3 2", x.judge(), -9);
    }

    private static int drawn(int z) {
        return (int) ((z & 0x7fffffffL) / 256 % 20) + 1;
    }

    private static void lots() {
        due("lots(20, 5) of none", new TrolleyAtEleven().lots(20, 5), 0);
        for (int z : new int[] {0, 7, -1, LEAST, GREATEST}) {
            TrolleyAtEleven x = housed("fo4020;ft8033;x01;");
            int seed = z;
            int cost = 0;
            for (int day = 0; day < 20; day++) {
                TrolleyAtEleven y = housed("fo4020;ft8033;x01;");
                for (int floor = 0; floor < 2; floor++) {
                    seed = seed * 1664525 + 1013904223;
                    y.people(floor, drawn(seed));
                }
                cost += y.total(7);
                due("lots(" + (day + 1) + ", " + z + ")", x.lots(day + 1, z), cost);
            }
            due("story(0, 2), nothing changes", x.story(0, 2), 2);
        }
        TrolleyAtEleven x = housed("fo4020;");
        for (int n : new int[] {0, -1, LEAST}) refused(x, "lots(" + n + ", 0)", () -> x.lots(n, 0), -4);
        for (int n : new int[] {21, GREATEST}) refused(x, "lots(" + n + ", 0)", () -> x.lots(n, 0), -6);
    }

    private static void image() {
        TrolleyAtEleven x = new TrolleyAtEleven();
        refused(x, "on() of none", x::on, -3);
        due("image() of none", x.image(), 0);
        told(x, SIX + "x05;u0102;b030405;s6;g17;r208;");
        String before = seen(x);
        due("image()", x.image(), 6);
        due("image(), all as before", seen(x).equals(before) ? 1 : 0, 1);
        for (int what = 0; what < 10; what++) x.set(what, 0);
        x.change(1, 4);
        x.people(2, 1);
        due("on()", x.on(), 6);
        due("on(), all as then", seen(x).equals(before) ? 1 : 0, 1);
        due("set(9) as then", x.set(9, 1), 8);
        x.row(1);
        x.letter('s');
        x.place(9);
        due("on() again", x.on(), 6);
        due("count(8), the row is no part of it", x.count(8), 1);
        due("count(9), letters are no part of it", x.count(9), 1);
        due("count(11), refusals are no part of it", x.count(11), 1);
        due("count(13)", x.count(13), 1);
        due("set(9) as then again", x.set(9, 1), 8);
        due("judge()", x.judge(), 0);
        TrolleyAtEleven y = new TrolleyAtEleven();
        y.image();
        told(y, "fo4010;");
        due("on() to none", y.on(), 0);
        due("count(0)", y.count(0), 0);
        due("count(3)", y.count(3), 40);
    }

    private static void count() {
        TrolleyAtEleven x = housed("fo4122;ft9201;u1234;b010203;s5;g16;r207;");
        x.row(7);
        tell(x, "xx");
        int[] want = {2, 32, 6, 12, 34, 5, 1, 2, 1, 2};
        for (int what = 0; what < want.length; what++) due("count(" + what + ")", x.count(what), want[what]);
        for (int what : new int[] {-1, 10, 17, 100, LEAST, GREATEST}) due("count(" + what + ")", x.count(what), -9);
        x.place(2);
        x.total(8);
        x.total(9);
        x.on();
        x.letter(-1);
        x.letter(256);
        int[] refusals = {1, 2, 1, 1, 0, 1};
        for (int r = 0; r < 6; r++) due("count(" + (11 + r) + ")", x.count(11 + r), refusals[r]);
    }

    public static void main(String[] args) {
        run("1 a new object", PromiseTests::newObject);
        run("2 letter", PromiseTests::letter);
        run("3 house", PromiseTests::houseTold);
        run("3 house, first kind", PromiseTests::houseFirstKind);
        run("3 house, second kind", PromiseTests::houseSecondKind);
        run("4 story", PromiseTests::story);
        run("5 place", PromiseTests::place);
        run("6 change", PromiseTests::change);
        run("7 people", PromiseTests::people);
        run("8 set", PromiseTests::set);
        run("9 come", PromiseTests::come);
        run("10 going", PromiseTests::going);
        run("11 total", PromiseTests::total);
        run("11 total, kinds", PromiseTests::kinds);
        run("12 at", PromiseTests::at);
        run("13 when", PromiseTests::when);
        run("14 and 15 best, bestAt", PromiseTests::best);
        run("16 and 17 turned, most", PromiseTests::turned);
        run("18 enough", PromiseTests::enough);
        run("19 fill", PromiseTests::fill);
        run("20 ramp", PromiseTests::ramp);
        run("21 keep", PromiseTests::keep);
        run("22 oneEach", PromiseTests::oneEach);
        run("23 and 24 machine, saves", PromiseTests::machine);
        run("25 late", PromiseTests::late);
        run("26 more", PromiseTests::more);
        run("27 squeak", PromiseTests::squeak);
        run("28 row", PromiseTests::row);
        run("29 fits", PromiseTests::fits);
        run("30 judge", PromiseTests::judge);
        run("31 lots", PromiseTests::lots);
        run("32 and 33 image, on", PromiseTests::image);
        run("34 count", PromiseTests::count);
        end();
    }
}
