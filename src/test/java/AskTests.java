import java.util.Arrays;

/** What is asked of a house, on both sides of each bound: which of several is told, the least, the most, none. */
public final class AskTests extends Checks {
    private static TrolleyAtEleven with(TrolleyAtEleven x, int... whatAndValue) {
        for (int i = 0; i + 1 < whatAndValue.length; i += 2) x.set(whatAndValue[i], whatAndValue[i + 1]);
        return x;
    }

    /** "ORDER: FLOORS as they came at first". */
    private static void orderAtFirst() {
        for (int n = 1; n <= 6; n++) {
            TrolleyAtEleven x = housed("fo4010;".repeat(n));
            for (int i = 0; i < n; i++) {
                due("place(" + i + ") of " + n, x.place(i), i);
                due("story(" + i + ", 4) of " + n, x.story(i, 4), i);
            }
            due("place(" + n + ") of " + n, x.place(n), -1);
        }
    }

    /** "Two FLOORS change places in ORDER: the place of the first then": floors, not places. */
    private static void change() {
        TrolleyAtEleven x = housed("fo4010;fo4010;fo4010;");
        due("change(0, 2)", x.change(0, 2), 2);
        due("change(0, 1)", x.change(0, 1), 1);
        due("change(2, 0)", x.change(2, 0), 1);
        int[] order = {0, 2, 1};
        for (int i = 0; i < 3; i++) due("place(" + i + ")", x.place(i), order[i]);
    }

    /** "of several the first by FLOORS", whatever ORDER is. */
    private static void firstByFloors() {
        TrolleyAtEleven x = housed("fo4110;fo4110;fo4110;fo4110;fo4110;fo4110;x05;x14;");
        for (int what = 0; what < 8; what++) bestOrder(x, what, 0, 1, 2, 3, 4, 5);
        due("fits(-1), all", x.fits(-1), 720);
        for (int i = 0; i < 6; i++) due("fits(" + i + ")", x.fits(i), i);
        // At 3 in 2, at 5 in 6, at 9 in 12; she goes 15 if she begins at 5.
        TrolleyAtEleven y = housed("fo5010;fo9010;fo3010;x02;");
        due("best(0)", y.best(0), 13);
        bestOrder(y, 0, 2, 0, 1);
        // Either way first she goes 2 and 3.
        TrolleyAtEleven z = housed("fo5010;fo3010;x01;");
        due("best(0) of two as near", z.best(0), 2 + 1 + 3 + 1);
        bestOrder(z, 0, 0, 1);
    }

    /** "with the least of a total (the most of SERVED, ICED)"; at the house's own order it is another. */
    private static void leastOrMost() {
        // 20 of the office leave none; the meeting comes only if the office is ahead of it.
        TrolleyAtEleven x = housed("fm4200;fo4200;b606060;");
        int[] own = {10, 20, 0, 0, 20, 0, 0, 10};
        totals(x, own);
        int[] best = {10, 40, 0, 0, 40, 0, 0, 10};
        for (int what = 0; what < 8; what++) due("best(" + what + ")", x.best(what), best[what]);
        bestOrder(x, 1, 1, 0);
        bestOrder(x, 4, 1, 0);
        for (int what : new int[] {0, 2, 3, 5, 6, 7}) bestOrder(x, what, 0, 1);
        TrolleyAtEleven y = with(housed("fo4050;ft4020;"), 0, 5, 8, 0);
        due("best(2), 5 cups for 6 who come", y.best(2), 1);
        due("best(6)", y.best(6), 3);
        bestOrder(y, 6, 0, 1);
        for (int what = 0; what < 8; what++) due("best(" + what + ") of none", new TrolleyAtEleven().best(what), 0);
        TrolleyAtEleven one = housed("fo5010;");
        for (int what = 0; what < 8; what++) {
            due("best(" + what + ") of one", one.best(what), one.total(what));
            due("bestAt(" + what + ", 0) of one", one.bestAt(what, 0), 0);
        }
    }

    /** Each total's best beside all six orders, each made by change() alone. */
    private static void bestOfAll() {
        String house = "fq4073;fg6122;fm2092;u1462;b040203;r203;";
        int[][] orders = {{0, 1, 2}, {0, 2, 1}, {1, 0, 2}, {1, 2, 0}, {2, 0, 1}, {2, 1, 0}};
        for (int what = 0; what < 8; what++) {
            int first = 0;
            int[] values = new int[6];
            for (int o = 0; o < 6; o++) {
                values[o] = ordered(housed(house), orders[o]).total(what);
                boolean better = what == 1 || what == 4 ? values[o] > values[first] : values[o] < values[first];
                if (better) first = o;
            }
            due("best(" + what + ")", housed(house).best(what), values[first]);
            bestOrder(housed(house), what, orders[first]);
        }
    }

    private static TrolleyAtEleven ordered(TrolleyAtEleven x, int... order) {
        for (int i = 0; i < order.length; i++) {
            if (x.place(i) != order[i]) x.change(x.place(i), order[i]);
        }
        return x;
    }

    /** "on day k (0 first) ORDER begins with its k-th FLOOR and goes round"; "on how many of as many days". */
    private static void turned() {
        for (int n = 1; n <= 6; n++) {
            // Each floor takes 4 minutes, so all but the first of a day have 59 degrees or less.
            TrolleyAtEleven x = with(housed("fo4061;".repeat(n)), 1, 60);
            due("most() of " + n, x.most(), n - 1);
            for (int floor = 0; floor < n; floor++) due("turned(" + floor + ") of " + n, x.turned(floor), n - 1);
            x.set(1, 59);
            due("most() of " + n + ", all cold", x.most(), n);
            for (int floor = 0; floor < n; floor++) due("turned(" + floor + ") of " + n + ", all cold", x.turned(floor), n);
            x.set(1, 99);
            due("most() of " + n + ", none cold", x.most(), 0);
            for (int floor = 0; floor < n; floor++) due("turned(" + floor + ") of " + n + ", none cold", x.turned(floor), 0);
        }
        due("most() of none", new TrolleyAtEleven().most(), 0);
        // 4, 2 and 1 minutes: 0 1 2 has 1 and 2 cold, 1 2 0 has none, 2 0 1 has 1.
        TrolleyAtEleven x = with(housed("fo4080;fo4040;fo4020;"), 1, 60);
        int[] days = {0, 2, 1};
        for (int floor = 0; floor < 3; floor++) due("turned(" + floor + ")", x.turned(floor), days[floor]);
        due("most()", x.most(), 2);
        // 2 1 0 has none, 1 0 2 has 2, 0 2 1 has 2 and 1.
        x.change(0, 2);
        int[] changed = {0, 1, 2};
        for (int floor = 0; floor < 3; floor++) due("turned(" + floor + ") by another order", x.turned(floor), changed[floor]);
        due("most() by another order", x.most(), 2);
        due("place(0), nothing changes", x.place(0), 2);
    }

    /** "the least number (0 .. 60) of BUNS of a sort by which nobody is BUNLESS; -9". */
    private static void enough() {
        String eighty = "fo4200;fo4200;fo4200;fo4200;";
        for (int sort = 0; sort < 3; sort++) {
            int own = 2 + sort;
            int other = 2 + (sort + 1) % 3;
            int third = 2 + (sort + 2) % 3;
            TrolleyAtEleven x = with(housed("fo4200;"), own, 7, other, 15, third, 5);
            due("enough(" + sort + "), the others just enough", x.enough(sort), 0);
            x.set(third, 4);
            due("enough(" + sort + "), the others one too few", x.enough(sort), 1);
            due("enough(" + sort + ") changes nothing", x.set(own, 7), 7);
            TrolleyAtEleven y = with(housed(eighty), own, 0, other, 20, third, 0);
            due("enough(" + sort + "), just the greatest", y.enough(sort), 60);
            y.set(own, 60);
            due("enough(" + sort + "), just the greatest, there", y.enough(sort), 60);
            y.set(other, 19);
            due("enough(" + sort + "), one more than the greatest", y.enough(sort), -9);
            y.set(other, 21);
            due("enough(" + sort + "), one less than the greatest", y.enough(sort), 59);
            due("enough(" + sort + ") of none", with(new TrolleyAtEleven(), own, 9).enough(sort), 0);
        }
        TrolleyAtEleven x = with(housed("fo4050;fo4010;b000000;"), 9, 5);
        due("enough(0), 5 are kept", x.enough(0), 10);
        x.set(9, 0);
        due("enough(0), none is kept", x.enough(0), 6);
        TrolleyAtEleven g = housed("fg4200;b000000;");
        due("enough(0) of 10 who take 3", g.enough(0), 28);
        g.set(3, 1);
        due("enough(0) of 10 who take 3, a currant one", g.enough(0), 27);
        due("count(15), -9 is no refusal", g.count(15), 0);
    }

    /** "FILLING with the least COST, of several the least". */
    private static void fill() {
        // None: 4 missed. To 40: 11 and 2, 1 bunless. 20 more: 6 and 2, 1 bunless, 4 cold.
        TrolleyAtEleven x = housed("fo4040;u0000;b030000;");
        costs(x, 16, 16, 19);
        due("fill(), 0 and 1 alike", x.fill(), 0);
        x.set(3, 1);
        costs(x, 16, 13, 16);
        due("fill(), 1 the least", x.fill(), 1);
        // None: 8 and 5 missed. 20 more: 6 and 10, 4 bunless.
        TrolleyAtEleven y = housed("fo4200;u1590;b160000;");
        costs(y, 28, 33, 28);
        due("fill(), 0 and 2 alike", y.fill(), 0);
        y.set(2, 17);
        costs(y, 28, 30, 25);
        due("fill(), 2 the least", y.fill(), 2);
        // The meeting comes only if she has filled to 40: 11, 3 and 5; else 6 and 3 and 5 cold; else 5 missed.
        TrolleyAtEleven z = housed("fo4050;fm4100;u0000;");
        costs(z, 20, 19, 19);
        due("fill(), 1 and 2 alike", z.fill(), 1);
        TrolleyAtEleven all = housed("fo4040;fm4050;u0000;");
        costs(all, 16, 16, 16);
        due("fill(), all alike", all.fill(), 0);
        for (int filling = 0; filling <= 2; filling++) {
            TrolleyAtEleven w = with(housed("fo4040;"), 8, filling);
            due("fill(), never filled", w.fill(), 0);
            due("count(7), nothing changes", w.count(7), filling);
            due("fill() of none", with(new TrolleyAtEleven(), 8, filling).fill(), 0);
        }
    }

    private static void costs(TrolleyAtEleven x, int... want) {
        for (int filling = 0; filling < want.length; filling++) {
            x.set(8, filling);
            due("total(7) by " + filling, x.total(7), want[filling]);
        }
    }

    /** "RAMP: GOING likewise". */
    private static void ramp() {
        for (int going = 0; going <= 1; going++) {
            TrolleyAtEleven x = with(housed("fo5010;"), 6, going, 7, 1);
            due("ramp(), the lift 2, the ramp 3", x.ramp(), 0);
            x.set(7, 2);
            due("ramp(), the lift 3, the ramp 3", x.ramp(), 0);
            x.set(7, 3);
            due("ramp(), the lift 4, the ramp 3", x.ramp(), 1);
            due("count(6), nothing changes", x.count(6), going);
            due("ramp(), the same level", with(housed("fo4010;"), 6, going, 7, 9).ramp(), 0);
            due("ramp() of none", with(new TrolleyAtEleven(), 6, going, 7, 9).ramp(), 0);
        }
        // By the ramp she is there in 9, and nobody comes; by the lift in 12: 10 minutes more, 20 cold.
        TrolleyAtEleven m = housed("fm7200;u4059;g09;");
        due("ramp(), nobody by the ramp", m.ramp(), 1);
    }

    /** "KEPT (0 .. 20) with which the last FLOOR gets most ICED, of several the least". */
    private static void keep() {
        int[] iced = {0, 1, 5, 19, 20, 21, 25, 39, 40, 41, 60};
        int[] kept = {0, 1, 5, 19, 20, 20, 20, 20, 0, 0, 0};
        int[] most = {0, 1, 5, 19, 20, 20, 20, 20, 20, 20, 20};
        for (int i = 0; i < iced.length; i++) {
            TrolleyAtEleven x = with(housed("fo4200;fo4200;"), 2, iced[i], 9, 3);
            due("keep(0) of " + iced[i], x.keep(0), kept[i]);
            due("keep(1) of " + iced[i], x.keep(1), most[i]);
            due("keep changes nothing", x.set(9, 3), 3);
        }
        TrolleyAtEleven one = with(housed("fo4200;"), 2, 20);
        due("keep(0) of one floor", one.keep(0), 0);
        due("keep(1) of one floor", one.keep(1), 20);
        TrolleyAtEleven last = with(housed("fo4050;fo4030;x01;"), 2, 5);
        due("keep(0), the last in ORDER", last.keep(0), 5);
        due("keep(1), the last in ORDER", last.keep(1), 5);
        TrolleyAtEleven none = with(housed("fo4050;fm4050;"), 2, 9);
        due("keep(0), nobody comes at the last", none.keep(0), 0);
        due("keep(1), nobody comes at the last", none.keep(1), 0);
        TrolleyAtEleven without = with(new TrolleyAtEleven(), 9, 20);
        due("keep(0) without floors", without.keep(0), 0);
        due("keep(1) without floors", without.keep(1), 0);
    }

    /** "by how many fewer are BUNLESS, if all take 1 BUN". */
    private static void oneEach() {
        int[] now = {10, 9, 9, 9, 8, 8, 8, 7, 7, 7, 6, 6, 6, 5, 5, 5, 4, 4, 4, 3, 3, 3, 2, 2, 2, 1, 1, 1, 0, 0, 0};
        for (int buns = 0; buns < now.length; buns++) {
            TrolleyAtEleven x = with(housed("fg4200;b000000;"), 2, buns);
            due("total(5) of " + buns, x.total(5), now[buns]);
            due("oneEach() of " + buns, x.oneEach(), now[buns] - Math.max(0, 10 - buns));
            due("total(5) of " + buns + ", nothing changes", x.total(5), now[buns]);
        }
        due("oneEach() of who take one anyway", housed("fo4200;b050000;").oneEach(), 0);
        for (String house : new String[] {"fg4080;fo4030;", "fo4030;fg4080;", "fg4050;fo4020;fg5040;", "fd4020;fg4060;fm5039;"}) {
            for (int iced = 0; iced <= 12; iced += 2) {
                for (int plain = 0; plain <= 6; plain += 3) {
                    for (int kept = 0; kept <= 6; kept += 2) oneEachBesideTelephones(house, 2, iced, 4, plain, 3, 1, 9, kept);
                }
            }
        }
    }

    /** A TELEPHONE is as a GREEDY floor, but for the BUNS each takes: 1. */
    private static void oneEachBesideTelephones(String house, int... whatAndValue) {
        TrolleyAtEleven x = with(housed(house), whatAndValue);
        TrolleyAtEleven telephones = with(housed(house.replace("fg", "ft")), whatAndValue);
        String call = "oneEach() of " + house + Arrays.toString(whatAndValue);
        due(call, x.oneEach(), x.total(5) - telephones.total(5));
        due(call + " by telephones", telephones.oneEach(), 0);
    }

    /** "twice their LEVEL and 1 MINUTES each"; "that less STANDING (may be below 0)". */
    private static void machine() {
        for (int level = 0; level <= 9; level++) {
            for (int n : new int[] {1, 20}) {
                due("machine() of " + n + " at " + level, housed("fo" + level + (n == 1 ? "01" : "20") + "0;").machine(),
                    n * (level + level + 1));
            }
        }
        due("machine(), all PEOPLE, who come or not", housed("fm4050;ft4050;").machine(), 5 * 9 + 5 * 9);
        // One at 0 goes 1 minute; she is there in as many minutes as she begins above, and 0 more.
        for (int start = 0; start <= 3; start++) {
            TrolleyAtEleven x = with(housed("fo0010;g00;"), 5, start);
            due("saves() if she begins at " + start, x.saves(), 1 - start);
        }
    }

    /** "t tenths (0 .. 10)"; "Fractions are told in least terms; 0 as 0 by 1". */
    private static void late() {
        // By the lift 18, by the ramp 27: 180 and 9 tenths for each t.
        long[] above = {18, 189, 99, 207, 108, 45, 117, 243, 126, 261, 27};
        long[] under = {1, 10, 5, 10, 5, 2, 5, 10, 5, 10, 1};
        TrolleyAtEleven x = housed("fo9010;s0;g09;");
        TrolleyAtEleven byRamp = housed("fo9010;s0;g19;");
        TrolleyAtEleven same = housed("fo4200;fm4200;g19;");
        for (int t = 0; t <= 10; t++) {
            due("late(" + t + ", 0)", x.late(t, 0), above[t]);
            due("late(" + t + ", 1)", x.late(t, 1), under[t]);
            due("late(" + t + ", 0), GOING the ramp", byRamp.late(t, 0), above[t]);
            due("late(" + t + ", 1), GOING the ramp", byRamp.late(t, 1), under[t]);
            due("late(" + t + ", 0) on one level", same.late(t, 0), 0);
            due("late(" + t + ", 1) on one level", same.late(t, 1), 1);
            due("late(" + t + ", 0) without floors", new TrolleyAtEleven().late(t, 0), 0);
            due("late(" + t + ", 1) without floors", new TrolleyAtEleven().late(t, 1), 1);
        }
        due("late(0, 0) is the lift's", x.late(0, 0), x.at(0, 0));
        due("late(10, 0) is the ramp's", x.late(10, 0), byRamp.at(0, 0));
        TrolleyAtEleven two = housed("fo5010;fo5010;fo3010;");
        due("late(0, 0), from LEVEL to LEVEL, twice", two.late(0, 0), 2 + 3);
        due("late(10, 0), from LEVEL to LEVEL, twice", two.late(10, 0), 3 + 6);
    }

    /** "how many more PEOPLE (0 .. 20) .. at most (20 in all ..) with no more MISSED than now". */
    private static void more() {
        for (int n = 1; n <= 20; n++) {
            String of = " of " + n;
            String house = "fo4" + (n < 10 ? "0" : "") + n + "0;";
            due("more(0) if she fills" + of, with(housed(house), 0, 0, 8, 1).more(0), 20 - n);
            due("more(0) if she fills 20" + of, with(housed(house), 0, 0, 8, 2).more(0), 20 - n);
            due("more(0), cups enough" + of, with(housed(house), 0, 40, 8, 0).more(0), 20 - n);
            due("more(0), 20 cups" + of, with(housed(house), 0, 20, 8, 0).more(0), 20 - n);
            due("more(0), 19 cups" + of, with(housed(house), 0, 19, 8, 0).more(0), n == 20 ? 0 : 19 - n);
            due("more(0), as many cups" + of, with(housed(house), 0, n, 8, 0).more(0), 0);
            due("more(0), one cup fewer" + of, with(housed(house), 0, n - 1, 8, 0).more(0), 0);
        }
        TrolleyAtEleven x = with(housed("fo4050;fo4200;"), 0, 12, 8, 0);
        due("total(2), 13 missed at the other", x.total(2), 13);
        due("more(0), each is one more missed", x.more(0), 0);
        TrolleyAtEleven t = with(housed("ft4010;"), 0, 2, 8, 0);
        due("more(0), half of 4 come", t.more(0), 3);
        // 9 come in 5, 7 of 10 in 5, the meeting in 10: 3 and 3 missed. 10 in 5, 6 of 10 in 4, nobody in 9: 4 missed.
        TrolleyAtEleven fewer = housed("ft4180;fo4101;fm4030;u1690;r000;");
        due("total(2), the meeting is missed", fewer.total(2), 6);
        due("more(0), with fewer missed than now", fewer.more(0), 2);
        fewer.people(0, 20);
        due("total(2), nobody comes to the meeting", fewer.total(2), 4);
        // 7: the director in 6, 5 missed, the meeting in 10, 3 missed. 8: nobody in 9. 9: 7 and 3. 10: 8. 11: 1 and 8.
        TrolleyAtEleven z = housed("fo4070;fd5080;fm5032;u1090;r000;");
        int[] missed = {8, 6, 10, 8, 9};
        due("more(0), the most, though 2 are too many", z.more(0), 3);
        for (int m = 0; m < missed.length; m++) {
            z.people(0, 7 + m);
            due("total(2), " + m + " more", z.total(2), missed[m]);
        }
    }

    /** "FLOORS of LEVEL s or less (0 .. 9) alone". */
    private static void squeak() {
        for (int level = 0; level <= 9; level++) {
            TrolleyAtEleven x = with(housed("fo" + level + "050;"), 5, level == 0 ? 9 : 0, 7, 0);
            int stood = 5 * (level == 0 ? 9 : level);
            for (int s = 0; s <= 9; s++) due("squeak(" + s + ") of " + level, x.squeak(s), s >= level ? stood : 0);
            due("total(6)", x.total(6), stood);
        }
    }

    /** "the first that is not so (or beyond FLOORS); -9"; "(whichever it answers, the ROW has none then)". */
    private static void judge() {
        String house = "fo4010;fo4020;fo4030;fo4040;fo4050;fo4060;x05;";
        int[] served = {6, 2, 3, 4, 5, 1};
        for (int n = 0; n <= 12; n++) {
            for (int wrong = -1; wrong < n; wrong++) {
                TrolleyAtEleven x = housed(house);
                for (int i = 0; i < n; i++) x.row(i == wrong ? 99 : i < 6 ? served[i] : 0);
                int due = wrong >= 0 && wrong < 6 ? wrong : n > 6 ? 6 : -9;
                due("judge() of " + n + ", wrong at " + wrong, x.judge(), due);
                due("count(8), the row has none", x.count(8), 0);
                due("judge() again", x.judge(), -9);
            }
        }
        TrolleyAtEleven x = housed("fo4050;");
        for (int v : new int[] {4, 6, 0, 99}) {
            x.row(v);
            due("judge() of " + v + " for 5", x.judge(), 0);
        }
        x.row(5);
        x.row(5);
        due("judge(), beyond FLOORS", x.judge(), 1);
        TrolleyAtEleven none = new TrolleyAtEleven();
        none.row(0);
        due("judge() without floors", none.judge(), 0);
        due("count(8), the row has none", none.count(8), 0);
    }

    /** "ORDERS (how many of all) by which the whole ROW is so"; "(-9 none)"; "(the ROW stays)". */
    private static void fits() {
        int[] all = {1, 1, 2, 6, 24, 120, 720};
        for (int n = 0; n <= 6; n++) {
            TrolleyAtEleven x = new TrolleyAtEleven();
            if (n > 0) told(x, "fo4010;".repeat(n));
            due("fits(-1) of " + n, x.fits(-1), all[n]);
            for (int i = 0; i < n; i++) x.row(1);
            due("fits(-1) of " + n + ", a whole row", x.fits(-1), all[n]);
            x.row(1);
            due("fits(-1) of " + n + ", one beyond", x.fits(-1), 0);
            for (int i = 0; i < n; i++) due("fits(" + i + ") of " + n + ", one beyond", x.fits(i), -9);
            due("count(8), the row stays", x.count(8), n + 1);
            due("judge(), the row stays", x.judge(), n);
        }
        TrolleyAtEleven x = housed("fo4010;fo4020;fo4020;x02;");
        x.row(2);
        due("fits(-1) of 2", x.fits(-1), 4);
        int[] first = {1, 0, 2};
        for (int i = 0; i < 3; i++) due("fits(" + i + ") of 2", x.fits(i), first[i]);
        x.row(2);
        due("fits(-1) of 2 2", x.fits(-1), 2);
        int[] then = {1, 2, 0};
        for (int i = 0; i < 3; i++) due("fits(" + i + ") of 2 2", x.fits(i), then[i]);
        x.row(2);
        due("fits(-1) of 2 2 2", x.fits(-1), 0);
        due("count(8), the row stays", x.count(8), 3);
    }

    /** "a DRAW below 20 and 1"; "z times 1664525 and 1013904223 (an int)"; "without its sign's bit by 256, cut". */
    private static void draw() {
        // Nobody has a cup, so each costs 4.
        TrolleyAtEleven x = housed("fo4010;u0090;r000;");
        due("lots(1, 0)", x.lots(1, 0), 16);
        due("lots(1, -1)", x.lots(1, -1), 8);
        due("lots(1, greatest)", x.lots(1, GREATEST), 8);
        due("lots(1, least)", x.lots(1, LEAST), 16);
        boolean[] drawn = new boolean[22];
        for (int k = 0; k < 400; k++) {
            int z = k * 10737419 + LEAST;
            int people = drawn(next(z));
            drawn[people] = true;
            due("lots(1, " + z + ")", x.lots(1, z), 4 * people);
        }
        due("none drawn below 1", drawn[0] ? 1 : 0, 0);
        for (int people = 1; people <= 20; people++) due("drawn " + people, drawn[people] ? 1 : 0, 1);
    }

    private static int next(int z) {
        long whole = java.math.BigInteger.valueOf(z).multiply(java.math.BigInteger.valueOf(1664525))
            .add(java.math.BigInteger.valueOf(1013904223)).mod(java.math.BigInteger.ONE.shiftLeft(32)).longValueExact();
        return (int) (whole < 2147483648L ? whole : whole - 4294967296L);
    }

    private static int drawn(int z) {
        long withoutSign = z < 0 ? z + 2147483648L : z;
        return (int) (withoutSign / 256 % 20) + 1;
    }

    /** "n days (1 .. 20), each with PEOPLE of each FLOOR a DRAW": by FLOORS, not by ORDER. */
    private static void lots() {
        for (int z : new int[] {0, 1, -1, 77, LEAST, GREATEST}) {
            TrolleyAtEleven x = housed("fo4010;ft4010;fo4010;u0090;r000;x02;x01;");
            int seed = z;
            int cost = 0;
            for (int n = 1; n <= 20; n++) {
                for (int floor = 0; floor < 3; floor++) {
                    seed = next(seed);
                    int people = drawn(seed);
                    cost += 4 * (floor == 1 ? (people + 1) / 2 : people);
                }
                due("lots(" + n + ", " + z + ")", x.lots(n, z), cost);
            }
            due("count(1), nothing changes", x.count(1), 3);
        }
    }

    /** Each is asked first of all behind a change: of the house as it is now, not as it was told. */
    private static void asIsNow() {
        String other = "fg4080;fo6123;fm3091;u0570;b040101;s2;g03;r103;x02;";
        for (int asked = 0; asked < 14; asked++) {
            TrolleyAtEleven x = housed("fg4010;fo6123;fm3091;u4090;b101010;s9;g19;r000;");
            x.people(0, 8);
            x.change(2, 0);
            with(x, 0, 5, 1, 70, 2, 4, 3, 1, 4, 1, 5, 2, 6, 0, 7, 3, 8, 1, 9, 3);
            due("asked " + asked + " behind a change", asking(x, asked), asking(housed(other), asked));
            x.image();
            told(x, "u4090;b606060;s9;g19;r000;x01;");
            x.on();
            due("asked " + asked + " behind on()", asking(x, asked), asking(housed(other), asked));
        }
    }

    private static long asking(TrolleyAtEleven x, int asked) {
        switch (asked) {
            case 0: return x.total(7);
            case 1: return x.best(6);
            case 2: return x.bestAt(6, 0);
            case 3: return x.turned(0);
            case 4: return x.enough(0);
            case 5: return x.fill();
            case 6: return x.ramp();
            case 7: return x.keep(1);
            case 8: return x.oneEach();
            case 9: return x.saves();
            case 10: return x.late(3, 0);
            case 11: return x.more(1);
            case 12: return x.squeak(5);
            default: return x.lots(3, 9);
        }
    }

    /** "all that there is, but it, the ROW, letters, REFUSALS; ON from it all is as then". */
    private static void image() {
        TrolleyAtEleven x = housed("fo4010;fm5020;x01;u1122;b112233;s6;g13;r214;");
        x.row(7);
        x.letter('s');
        x.place(9);
        due("image()", x.image(), 2);
        due("house()", told(x, "0;fq9209;ft1010;x02;u0000;b000000;s0;g00;r000;"), 9);
        x.people(0, 20);
        x.row(8);
        x.letter('s');
        x.letter('1');
        x.place(9);
        x.total(9);
        due("on()", x.on(), 2);
        int[] order = {1, 0};
        int[] people = {1, 2};
        for (int i = 0; i < 2; i++) {
            due("place(" + i + ")", x.place(i), order[i]);
            due("story(" + i + ", 2)", x.story(i, 2), people[i]);
        }
        settings(x, 11, 22, 11, 22, 33, 6, 1, 3, 2, 14);
        due("count(8), the row is as it is", x.count(8), 2);
        due("count(9), the letters are as they are", x.count(9), 2);
        due("letter, the letters are as they are", x.letter(';'), 3);
        due("house(), the letters are as they are", x.house(), 1);
        due("count(5)", x.count(5), 1);
        due("count(11), refusals are as they are", x.count(11), 2);
        due("count(12), refusals are as they are", x.count(12), 1);
    }

    /** The image holds no image; a second one is in its place; what is changed behind it leaves it as it is. */
    private static void imageAgain() {
        TrolleyAtEleven x = housed("fo4010;");
        x.image();
        x.people(0, 2);
        due("on()", x.on(), 1);
        due("story(0, 2)", x.story(0, 2), 1);
        x.people(0, 3);
        due("on() again", x.on(), 1);
        due("story(0, 2)", x.story(0, 2), 1);
        x.people(0, 4);
        due("another image()", x.image(), 1);
        x.people(0, 5);
        due("on()", x.on(), 1);
        due("story(0, 2) of another image", x.story(0, 2), 4);
        due("six floors more are too many", told(x, SIX), -2035);
        due("five floors more", told(x, "fo0010;fo0010;fo0010;fo0010;fo0010;"), 5);
        due("on(), one floor", x.on(), 1);
        due("story(1, 0), they are none", x.story(1, 0), -1);
        due("place(1), they are none", x.place(1), -1);
        due("five others", told(x, "fm1010;fm1010;fm1010;fm1010;fm1010;"), 5);
        due("story(5, 0)", x.story(5, 0), 1);
        due("image() of six", x.image(), 6);
        due("on() of six", x.on(), 6);
        due("on(), all people", x.count(1), 9);
    }

    /** "0 FLOORS, 1 all PEOPLE, 2 all BUNS": none, and as many as there can be. */
    private static void count() {
        due("count(0) of none", new TrolleyAtEleven().count(0), 0);
        due("count(1) of none", new TrolleyAtEleven().count(1), 0);
        TrolleyAtEleven x = housed("fo4200;".repeat(6) + "b606060;u4099;s9;g19;r220;");
        int[] most = {6, 120, 180, 40, 99, 9, 1, 2, 0, 0};
        for (int what = 0; what < most.length; what++) due("count(" + what + ")", x.count(what), most[what]);
        for (int i = 1; i <= 12; i++) x.row(0);
        for (int i = 1; i <= 96; i++) x.letter(0);
        due("count(8)", x.count(8), 12);
        due("count(9)", x.count(9), 96);
        TrolleyAtEleven y = housed("u0000;b000000;s0;g00;r000;");
        for (int what = 0; what < most.length; what++) due("count(" + what + ")", y.count(what), 0);
    }

    public static void main(String[] args) {
        run("\"FLOORS as they came at first\"", AskTests::orderAtFirst);
        run("\"the place of the first then\"", AskTests::change);
        run("\"of several the first by FLOORS\"", AskTests::firstByFloors);
        run("\"with the least of a total (the most of SERVED, ICED)\"", AskTests::leastOrMost);
        run("\"of all ORDERS\"", AskTests::bestOfAll);
        run("\"on how many of as many days as there are FLOORS\"", AskTests::turned);
        run("\"the least number (0 .. 60) of BUNS .. -9\"", AskTests::enough);
        run("\"FILLING with the least COST, of several the least\"", AskTests::fill);
        run("\"GOING likewise\"", AskTests::ramp);
        run("\"KEPT (0 .. 20) .. of several the least\"", AskTests::keep);
        run("\"if all take 1 BUN (may be below 0)\"", AskTests::oneEach);
        run("\"twice their LEVEL and 1 MINUTES each\"", AskTests::machine);
        run("\"t tenths (0 .. 10) .. 0 as 0 by 1\"", AskTests::late);
        run("\"how many more PEOPLE (0 .. 20)\"", AskTests::more);
        run("\"LEVEL s or less (0 .. 9) alone\"", AskTests::squeak);
        run("\"the first that is not so (or beyond FLOORS); -9\"", AskTests::judge);
        run("\"the first one's i-th FLOOR (-9 none) (the ROW stays)\"", AskTests::fits);
        run("\"a DRAW below m\"", AskTests::draw);
        run("\"n days (1 .. 20)\"", AskTests::lots);
        run("of the house as it is now", AskTests::asIsNow);
        run("\"all that there is, but it, the ROW, letters, REFUSALS\"", AskTests::image);
        run("\"ON from it all is as then\"", AskTests::imageAgain);
        run("34 count", AskTests::count);
        end();
    }
}
