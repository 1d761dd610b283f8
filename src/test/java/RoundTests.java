/** A round on both sides of each bound: who comes, how long, how warm, which buns, who stands about. */
public final class RoundTests extends Checks {
    /** Half of n, rounded up. */
    private static final int[] HALF = {0, 1, 1, 2, 2, 3, 3, 4, 4, 5, 5, 6, 6, 7, 7, 8, 8, 9, 9, 10, 10};
    private static final int NONE_MORE = 0;
    private static final int TO_FORTY = 1;
    private static final int TWENTY = 2;

    private static String two(int v) {
        return (v < 10 ? "0" : "") + v;
    }

    /** One floor; she is there in that minute, 0 to 18. */
    private static TrolleyAtEleven inMinute(int minute, char kind, int people, int chat) {
        int lift = minute > 9 ? 9 : 0;
        return housed("f" + kind + (minute - lift) + two(people) + chat + ";s0;g0" + lift + ";b606060;");
    }

    private static TrolleyAtEleven urn(TrolleyAtEleven x, int cups, int warm, int filling) {
        x.set(0, cups);
        x.set(1, warm);
        x.set(8, filling);
        return x;
    }

    private static TrolleyAtEleven buns(TrolleyAtEleven x, int iced, int currant, int plain) {
        x.set(2, iced);
        x.set(3, currant);
        x.set(4, plain);
        return x;
    }

    /** "half of n, rounded up, and CHAT"; "half of PEOPLE, rounded up"; "2 MINUTES more"; "half as many .., cut". */
    private static void minutesToServe() {
        for (int n = 1; n <= 20; n++) {
            for (int chat : new int[] {0, 1, 2, 9}) {
                String of = " of " + n + " who chat " + chat;
                int long1 = HALF[n] + chat;
                due("an office" + of, inMinute(0, 'o', n, chat).total(0), long1);
                due("a director" + of, inMinute(0, 'd', n, chat).total(0), long1 + 2);
                due("a telephone" + of, inMinute(0, 't', n, chat).total(0), HALF[HALF[n]] + chat);
                due("a greedy one" + of, inMinute(0, 'g', n, chat).total(0), HALF[HALF[n]] + chat);
                due("a meeting" + of, inMinute(10, 'm', n, chat).total(0), 10 + long1);
                due("a quick one" + of, inMinute(10, 'q', n, chat).total(0), 10 + long1 / 2);
            }
        }
        due("a quick one, 1 minute, cut", inMinute(10, 'q', 1, 0).total(0), 10);
        due("a quick one, 2 minutes", inMinute(10, 'q', 1, 1).total(0), 11);
        due("a quick one, 3 minutes, cut", inMinute(10, 'q', 1, 2).total(0), 11);
    }

    /** "Then the MINUTES it takes to serve those SERVED (none, too)". */
    private static void noneServed() {
        int[] halfOfChat = {0, 0, 1, 1, 2, 2, 3, 3, 4, 4};
        for (int chat = 0; chat <= 9; chat++) {
            for (char kind : "otg".toCharArray()) {
                due("none served, " + kind + chat, urn(inMinute(0, kind, 9, chat), 0, 90, NONE_MORE).total(0), chat);
            }
            due("none served, d" + chat, urn(inMinute(0, 'd', 9, chat), 0, 90, NONE_MORE).total(0), chat + 2);
            due("none served, m" + chat, urn(inMinute(10, 'm', 9, chat), 0, 90, NONE_MORE).total(0), 10 + chat);
            due("none comes, m" + chat, inMinute(9, 'm', 9, chat).total(0), 9 + chat);
            due("none served, q" + chat, urn(inMinute(10, 'q', 9, chat), 0, 90, NONE_MORE).total(0), 10 + halfOfChat[chat]);
            due("none comes, q" + chat, inMinute(9, 'q', 9, chat).total(0), 9 + halfOfChat[chat]);
        }
    }

    /** "all PEOPLE"; "nobody ahead of MINUTE 10"; "half of PEOPLE, rounded up". */
    private static void whoComes() {
        for (int n = 1; n <= 20; n++) {
            int[] early = {n, 0, HALF[n], n, HALF[n], 0};
            int[] late = {n, n, HALF[n], n, HALF[n], n};
            for (int k = 0; k < 6; k++) {
                char kind = "omtdgq".charAt(k);
                String of = " of " + n + " " + kind;
                due("come in 0" + of, inMinute(0, kind, n, 0).come(0, 0), early[k]);
                due("come in 9" + of, inMinute(0, kind, n, 0).come(0, 9), early[k]);
                due("come in 10" + of, inMinute(0, kind, n, 0).come(0, 10), late[k]);
                due("come in 999" + of, inMinute(0, kind, n, 0).come(0, 999), late[k]);
                due("served in 0" + of, inMinute(0, kind, n, 0).total(1), early[k]);
                due("served in 9" + of, inMinute(9, kind, n, 0).total(1), early[k]);
                due("served in 10" + of, inMinute(10, kind, n, 0).total(1), late[k]);
                due("served in 18" + of, inMinute(18, kind, n, 0).total(1), late[k]);
            }
        }
        due("a meeting at 9, behind an office", housed("fo4018;fm4050;").total(1), 1);
        due("a meeting at 10, behind an office", housed("fo4019;fm4050;").total(1), 6);
        // She is there at 9, and fills till 20: those who come are those of minute 9.
        due("a meeting at 9, nobody comes, no filling", urn(inMinute(9, 'm', 5, 0), 0, 90, TO_FORTY).total(0), 9);
    }

    /** "LIFT and the LEVELS between"; "3 times these"; "nothing on the same LEVEL". */
    private static void goingEachWay() {
        for (int lift : new int[] {0, 1, 9}) {
            TrolleyAtEleven x = new TrolleyAtEleven();
            x.set(7, lift);
            // 401 calls of the 512.
            for (int from = 0; from <= 9; from++) {
                for (int to = 0; to <= 9; to++) {
                    int between = from < to ? to - from : from - to;
                    x.set(6, 0);
                    due("going(" + from + ", " + to + ") by the lift", x.going(from, to), between == 0 ? 0 : lift + between);
                    x.set(6, 1);
                    due("going(" + from + ", " + to + ") by the ramp", x.going(from, to), 3 * between);
                }
            }
        }
        due("from START, the same LEVEL", housed("fo4010;g09;").at(0, 0), 0);
        due("from START, the next LEVEL", housed("fo5010;g09;").at(0, 0), 10);
        due("from START by the ramp", housed("fo3010;g19;").at(0, 0), 3);
        due("from a FLOOR, the same LEVEL", housed("fo5010;fo5010;g09;").at(1, 0), 11);
        due("from a FLOOR, the next LEVEL", housed("fo5010;fo4010;g09;").at(1, 0), 21);
    }

    /** "WARM is 1 less in each full 4 MINUTES of the ROUND so far"; "0 at least". */
    private static void cooling() {
        int[] less = {0, 0, 0, 0, 1, 1, 1, 1, 2, 2, 2, 2, 3, 3, 3, 3, 4, 4, 4};
        for (int minute = 0; minute <= 18; minute++) {
            for (int warm : new int[] {4, 5, 90, 99}) {
                TrolleyAtEleven x = urn(inMinute(minute, 'o', 5, 0), 40, warm, TO_FORTY);
                due(warm + " degrees in minute " + minute, x.at(0, 1), warm - less[minute]);
            }
            due("0 degrees in minute " + minute, urn(inMinute(minute, 'o', 5, 0), 40, 0, TO_FORTY).at(0, 1), 0);
        }
        due("1 degree in minute 3", urn(inMinute(3, 'o', 5, 0), 40, 1, TO_FORTY).at(0, 1), 1);
        due("1 degree in minute 4", urn(inMinute(4, 'o', 5, 0), 40, 1, TO_FORTY).at(0, 1), 0);
        due("1 degree in minute 8", urn(inMinute(8, 'o', 5, 0), 40, 1, TO_FORTY).at(0, 1), 0);
        due("3 degrees in minute 18", urn(inMinute(18, 'o', 5, 0), 40, 3, TO_FORTY).at(0, 1), 0);
        // Below 0 it would be half of 89 and less.
        due("0 degrees in minute 18, half of it and 90", urn(inMinute(18, 'o', 5, 0), 0, 0, TWENTY).at(0, 1), 45);
    }

    /** "since it was filled": from the minute in which she has filled. */
    private static void coolingSinceFilled() {
        int[] degrees = {90, 90, 90, 89, 89, 89, 89, 88, 88, 88};
        for (int chat = 0; chat <= 9; chat++) {
            for (int filling : new int[] {TO_FORTY, TWENTY}) {
                // One is served in 1 minute, then they chat.
                TrolleyAtEleven x = urn(housed("fo401" + chat + ";fo4010;"), 0, 90, filling);
                due("at(0, 1), filling " + filling, x.at(0, 1), 90);
                due("at(1, 1), filling " + filling + ", " + (chat + 1) + " minutes on", x.at(1, 1), degrees[chat]);
                due("at(1, 0)", x.at(1, 0), (filling == TO_FORTY ? 11 : 6) + 1 + chat);
            }
        }
        // Filled in 18 by 11; 2 degrees less by then count no more.
        TrolleyAtEleven x = urn(inMinute(10, 'o', 5, 0), 0, 80, TO_FORTY);
        due("at(0, 1), filled late", x.at(0, 1), 90);
    }

    /** "if CUPS are fewer, she FILLS first": as many are enough. */
    private static void cupsFewer() {
        for (int n = 1; n <= 20; n++) {
            String of = " of " + n;
            for (int filling = 0; filling <= 2; filling++) {
                totals(urn(inMinute(0, 'o', n, 0), n, 90, filling), HALF[n], n, 0, 0, n, 0, 0, HALF[n]);
            }
            due("one cup fewer, not filled" + of, urn(inMinute(0, 'o', n, 0), n - 1, 90, NONE_MORE).total(0), HALF[n - 1]);
            due("one cup fewer, to 40" + of, urn(inMinute(0, 'o', n, 0), n - 1, 90, TO_FORTY).total(0), 11 + HALF[n]);
            due("one cup fewer, 20 more" + of, urn(inMinute(0, 'o', n, 0), n - 1, 90, TWENTY).total(0), 6 + HALF[n]);
            due("one cup fewer, missed" + of, urn(inMinute(0, 'o', n, 0), n - 1, 90, NONE_MORE).total(2), 1);
            due("one cup fewer, filled, missed" + of, urn(inMinute(0, 'o', n, 0), n - 1, 90, TO_FORTY).total(2), 0);
            due("one cup fewer, 20 more, missed" + of, urn(inMinute(0, 'o', n, 0), n - 1, 90, TWENTY).total(2), 0);
        }
        for (int filling = 0; filling <= 2; filling++) {
            due("no cup, nobody comes", urn(inMinute(9, 'm', 20, 0), 0, 90, filling).total(0), 9);
            due("half come, as many cups", urn(inMinute(0, 't', 19, 0), 10, 90, filling).total(0), 5);
        }
        due("half come, one cup fewer", urn(inMinute(0, 't', 19, 0), 9, 90, TO_FORTY).total(0), 16);
    }

    /** "1 up to 40 in 11 MINUTES, WARM 90". */
    private static void upToForty() {
        for (int cups : new int[] {0, 1, 19}) {
            TrolleyAtEleven x = urn(housed("fo4200;fo4200;fo4010;b606060;"), cups, 70, TO_FORTY);
            due("at(1, 0), no more filling", x.at(1, 0), 21);
            due("at(2, 0), 40 are gone", x.at(2, 0), 31);
            due("at(2, 1), filled again", x.at(2, 1), 90);
            due("total(0)", x.total(0), 31 + 11 + 1);
            due("total(2)", x.total(2), 0);
        }
        TrolleyAtEleven y = urn(housed("fo4200;fo4190;fo4010;b606060;"), 0, 70, TO_FORTY);
        due("total(0), the 40th cup is there", y.total(0), 11 + 10 + 10 + 1);
        for (int warm : new int[] {0, 89, 90, 91, 99}) {
            due("filled, " + warm + " before", urn(inMinute(0, 'o', 1, 0), 0, warm, TO_FORTY).at(0, 1), 90);
        }
    }

    /** "2 20 more, 40 at most, in 6 MINUTES": fewer than come are 19 at most, so 39 are there at most. */
    private static void twentyMore() {
        TrolleyAtEleven x = urn(housed("fo4200;fo4190;fo4010;b606060;"), 19, 90, TWENTY);
        due("at(1, 0)", x.at(1, 0), 16);
        due("at(2, 0), 19 were left, no filling", x.at(2, 0), 26);
        due("total(0), none was left", x.total(0), 26 + 6 + 1);
        x.people(1, 20);
        due("at(2, 0), 19 were left for 20", x.at(2, 0), 16 + 6 + 10);
        due("total(0), 19 again are left", x.total(0), 32 + 1);
        TrolleyAtEleven y = urn(housed("fo4200;fo4010;b606060;"), 0, 90, TWENTY);
        due("at(1, 0), 20 of none", y.at(1, 0), 16);
        due("total(0), none is left", y.total(0), 16 + 6 + 1);
        y.people(0, 19);
        due("total(0), one is left", y.total(0), 16 + 1);
    }

    /** "WARM half of what it was as she came and 90 together, cut". */
    private static void halfAsWarm() {
        int[] warm = {0, 1, 2, 3, 28, 29, 30, 31, 88, 89, 90, 91, 92, 98, 99};
        int[] half = {45, 45, 46, 46, 59, 59, 60, 60, 89, 89, 90, 90, 91, 94, 94};
        for (int i = 0; i < warm.length; i++) {
            due("filled, " + warm[i] + " before", urn(inMinute(0, 'o', 1, 0), 0, warm[i], TWENTY).at(0, 1), half[i]);
        }
        // 90 degrees, 3 minutes on; 89, 4 minutes on; 88, 8 on; 87, 12 on.
        int[] minutes = {3, 4, 7, 8, 11, 12, 15, 16};
        int[] asShe = {90, 89, 89, 89, 89, 88, 88, 88};
        for (int i = 0; i < minutes.length; i++) {
            due("filled as she came in " + minutes[i], urn(inMinute(minutes[i], 'o', 1, 0), 0, 90, TWENTY).at(0, 1), asShe[i]);
        }
    }

    /** "Each who COMES has a CUP, while there are (SERVED; the others are MISSED ..)". */
    private static void servedAndMissed() {
        for (int cups = 0; cups <= 40; cups++) {
            TrolleyAtEleven x = urn(inMinute(0, 'o', 20, 0), cups, 90, NONE_MORE);
            int served = cups < 20 ? cups : 20;
            due("served of " + cups + " cups", x.total(1), served);
            due("at(0, 2) of " + cups + " cups", x.at(0, 2), served);
            due("missed of " + cups + " cups", x.total(2), 20 - served);
        }
        TrolleyAtEleven y = urn(housed("fo4200;fo4050;fo4010;"), 24, 90, NONE_MORE);
        int[] served = {20, 4, 0};
        for (int i = 0; i < 3; i++) due("at(" + i + ", 2)", y.at(i, 2), served[i]);
        due("missed of the second and third", y.total(2), 2);
    }

    /** "COLD, if WARM is below 60 then". */
    private static void cold() {
        due("cold of 60", urn(inMinute(0, 'o', 9, 0), 40, 60, NONE_MORE).total(3), 0);
        due("cold of 59", urn(inMinute(0, 'o', 9, 0), 40, 59, NONE_MORE).total(3), 9);
        due("cold of 60 in minute 3", urn(inMinute(3, 'o', 9, 0), 40, 60, NONE_MORE).total(3), 0);
        due("cold of 60 in minute 4", urn(inMinute(4, 'o', 9, 0), 40, 60, NONE_MORE).total(3), 9);
        due("cold of 61 in minute 4", urn(inMinute(4, 'o', 9, 0), 40, 61, NONE_MORE).total(3), 0);
        due("cold of 61 in minute 8", urn(inMinute(8, 'o', 9, 0), 40, 61, NONE_MORE).total(3), 9);
        due("cold, who is missed is not", urn(inMinute(0, 'o', 9, 0), 4, 59, NONE_MORE).total(3), 4);
        due("cold, nobody served", urn(inMinute(0, 'o', 9, 0), 0, 59, NONE_MORE).total(3), 0);
        due("cold, filled to 90", urn(inMinute(0, 'o', 9, 0), 0, 0, TO_FORTY).total(3), 0);
        due("cold, filled to 59", urn(inMinute(0, 'o', 9, 0), 0, 29, TWENTY).total(3), 9);
        due("cold, filled to 60", urn(inMinute(0, 'o', 9, 0), 0, 30, TWENTY).total(3), 0);
        due("cold, twice in the cost", urn(inMinute(0, 'o', 9, 0), 40, 59, NONE_MORE).total(7), 5 + 18);
    }

    /** "at all FLOORS but the last in ORDER ICED only while there are more than KEPT". */
    private static void kept() {
        for (int kept = 0; kept <= 20; kept++) {
            TrolleyAtEleven x = buns(housed("fo4050;fo4050;"), 10, 60, 60);
            x.set(9, kept);
            int first = kept <= 5 ? 5 : kept <= 10 ? 10 - kept : 0;
            due("at(0, 3), " + kept + " of 10 kept", x.at(0, 3), first);
            due("at(1, 3), " + kept + " of 10 kept", x.at(1, 3), 5);
            due("total(4), " + kept + " of 10 kept", x.total(4), first + 5);
            due("total(5), " + kept + " of 10 kept", x.total(5), 0);
            x.set(3, 0);
            x.set(4, 0);
            due("total(5), " + kept + " of 10 kept, no others", x.total(5), 5 - first);
        }
        TrolleyAtEleven one = buns(housed("fo4050;"), 5, 0, 0);
        one.set(9, 20);
        due("one floor is the last", one.at(0, 3), 5);
        due("one floor is the last, none is bunless", one.total(5), 0);
        TrolleyAtEleven x = buns(housed("fo4050;fo4030;x01;"), 5, 0, 0);
        x.set(9, 5);
        due("at(0, 3), the last is the last in ORDER", x.at(0, 3), 0);
        due("at(1, 3), the last is the last in ORDER", x.at(1, 3), 5);
        x.set(9, 4);
        due("at(0, 3), one more than kept", x.at(0, 3), 1);
        due("at(1, 3), one more than kept", x.at(1, 3), 4);
        TrolleyAtEleven six = buns(housed("fo4010;fo4010;fo4010;fo4010;fo4010;fo4010;"), 4, 0, 0);
        six.set(9, 2);
        int[] eaten = {1, 1, 0, 0, 0, 1};
        for (int i = 0; i < 6; i++) due("at(" + i + ", 3), 2 of 4 kept", six.at(i, 3), eaten[i]);
    }

    /** "each SERVED takes BUNS one by one .. who gets none at all is BUNLESS". */
    private static void bunless() {
        for (int sort = 0; sort < 3; sort++) {
            for (int n = 0; n <= 12; n++) {
                TrolleyAtEleven x = buns(inMinute(0, 'o', 10, 0), 0, 0, 0);
                x.set(2 + sort, n);
                due(n + " buns of sort " + sort + " for 10", x.total(5), n < 10 ? 10 - n : 0);
                due(n + " buns of sort " + sort + " for 10, iced eaten", x.total(4), sort > 0 ? 0 : n < 10 ? n : 10);
            }
            int[] greedy = {5, 4, 4, 4, 3, 3, 3, 2, 2, 2, 1, 1, 1, 0, 0, 0, 0};
            for (int n = 0; n < greedy.length; n++) {
                TrolleyAtEleven x = buns(inMinute(0, 'g', 10, 0), 0, 0, 0);
                x.set(2 + sort, n);
                due(n + " buns of sort " + sort + " for 5 who take 3", x.total(5), greedy[n]);
                due(n + " buns of sort " + sort + ", iced eaten", x.total(4), sort > 0 ? 0 : n < 15 ? n : 15);
            }
        }
        due("who is missed is not bunless", urn(buns(inMinute(0, 'o', 9, 0), 0, 0, 0), 4, 90, NONE_MORE).total(5), 4);
        due("3 times in the cost", buns(inMinute(0, 'o', 9, 0), 0, 0, 0).total(7), 5 + 27);
    }

    /** "ICED first, then CURRANT, PLAIN"; "3 BUNS each". */
    private static void icedFirst() {
        TrolleyAtEleven x = buns(inMinute(0, 'g', 4, 0), 1, 1, 1);
        due("one of each for the first of two", x.total(5), 1);
        due("one of each, iced eaten", x.total(4), 1);
        due("one of each and one more", buns(inMinute(0, 'g', 4, 0), 1, 1, 2).total(5), 0);
        due("4 iced for two who take 3", buns(inMinute(0, 'g', 4, 0), 4, 9, 9).total(4), 4);
        due("6 iced for two who take 3", buns(inMinute(0, 'g', 4, 0), 6, 9, 9).total(4), 6);
        due("7 iced for two who take 3", buns(inMinute(0, 'g', 4, 0), 7, 9, 9).total(4), 6);
        due("3 iced for 4", buns(inMinute(0, 'o', 4, 0), 3, 9, 9).total(4), 3);
        due("4 iced for 4", buns(inMinute(0, 'o', 4, 0), 4, 9, 9).total(4), 4);
        due("5 iced for 4", buns(inMinute(0, 'o', 4, 0), 5, 9, 9).total(4), 4);
        TrolleyAtEleven y = buns(housed("fg4020;fo4050;"), 3, 1, 1);
        due("at(0, 3), the greedy one takes 3", y.at(0, 3), 3);
        due("at(1, 3), none is left", y.at(1, 3), 0);
        due("total(5), a currant and a plain one", y.total(5), 3);
        y.set(9, 2);
        // One iced, a currant and a plain one for the greedy one; two iced for the last.
        due("at(0, 3), two are kept", y.at(0, 3), 1);
        due("at(1, 3), two are kept", y.at(1, 3), 2);
        due("total(5), two are kept", y.total(5), 3);
    }

    /** "those who COME times MINUTES till they are served (she is there, and has filled)". */
    private static void standing() {
        for (int minute = 0; minute <= 18; minute++) {
            due("standing till " + minute, inMinute(minute, 'o', 7, 0).total(6), 7 * minute);
            due("standing till " + minute + " and 11", urn(inMinute(minute, 'o', 7, 0), 6, 90, TO_FORTY).total(6), 7 * (minute + 11));
            due("standing till " + minute + " and 6", urn(inMinute(minute, 'o', 7, 0), 6, 90, TWENTY).total(6), 7 * (minute + 6));
            due("standing till " + minute + ", missed", urn(inMinute(minute, 'o', 7, 0), 0, 90, NONE_MORE).total(6), 7 * minute);
            due("standing till " + minute + ", half of them", inMinute(minute, 't', 7, 0).total(6), 4 * minute);
            due("standing till " + minute + ", a meeting", inMinute(minute, 'm', 7, 0).total(6), minute < 10 ? 0 : 7 * minute);
        }
        due("at(0, 0) is the minute she comes, not filled", urn(inMinute(5, 'o', 7, 0), 0, 90, TO_FORTY).at(0, 0), 5);
        due("when(0) is the minute she comes, not filled", urn(inMinute(5, 'o', 7, 0), 0, 90, TO_FORTY).when(0), 5);
        due("at(0, 1) is how warm, filled", urn(inMinute(5, 'o', 7, 0), 0, 50, TO_FORTY).at(0, 1), 90);
    }

    /** "COST (7: MINUTES, twice COLD, 3 times BUNLESS, 4 times MISSED together)". */
    private static void cost() {
        due("minutes", inMinute(5, 'o', 9, 0).total(7), 10);
        due("and 9 cold", urn(inMinute(5, 'o', 9, 0), 40, 0, NONE_MORE).total(7), 10 + 18);
        due("and 9 bunless", buns(inMinute(5, 'o', 9, 0), 0, 0, 0).total(7), 10 + 27);
        due("and 8 missed", urn(inMinute(5, 'o', 9, 0), 1, 90, NONE_MORE).total(7), 6 + 32);
        TrolleyAtEleven x = buns(urn(inMinute(5, 'o', 9, 0), 5, 0, NONE_MORE), 2, 0, 0);
        totals(x, 8, 5, 4, 5, 2, 3, 45, 8 + 10 + 9 + 16);
        totals(new TrolleyAtEleven(), 0, 0, 0, 0, 0, 0, 0, 0);
    }

    /** "in mind": a round spends no cup, no bun and no degree. */
    private static void inMind() {
        TrolleyAtEleven x = urn(housed(SIX), 3, 70, TWENTY);
        String before = seen(x);
        for (int i = 0; i < 3; i++) due("seen again", seen(x).equals(before) ? 1 : 0, 1);
        settings(x, 3, 70, 10, 10, 10, 4, 0, 1, 2, 0);
    }

    public static void main(String[] args) {
        run("\"how many MINUTES it takes to serve n\"", RoundTests::minutesToServe);
        run("\"those SERVED (none, too)\"", RoundTests::noneServed);
        run("\"how many COME in a MINUTE\"", RoundTests::whoComes);
        run("\"from one LEVEL to another\"", RoundTests::goingEachWay);
        run("\"WARM is 1 less in each full 4 MINUTES .. 0 at least\"", RoundTests::cooling);
        run("\"since it was filled (or since it began)\"", RoundTests::coolingSinceFilled);
        run("\"if CUPS are fewer, she FILLS first\"", RoundTests::cupsFewer);
        run("\"1 up to 40 in 11 MINUTES, WARM 90\"", RoundTests::upToForty);
        run("\"2 20 more, 40 at most, in 6 MINUTES\"", RoundTests::twentyMore);
        run("\"WARM half of what it was as she came and 90 together, cut\"", RoundTests::halfAsWarm);
        run("\"has a CUP, while there are\"", RoundTests::servedAndMissed);
        run("\"COLD, if WARM is below 60 then\"", RoundTests::cold);
        run("\"ICED only while there are more than KEPT\"", RoundTests::kept);
        run("\"who gets none at all is BUNLESS\"", RoundTests::bunless);
        run("\"ICED first, then CURRANT, PLAIN\"", RoundTests::icedFirst);
        run("\"times MINUTES till they are served\"", RoundTests::standing);
        run("\"COST (7 ..)\"", RoundTests::cost);
        run("\"TOTALS of a ROUND, in mind\"", RoundTests::inMind);
        end();
    }
}
