import java.util.function.Consumer;
import java.util.function.ToLongFunction;

/** Each refusal on both sides of its bound: the last that is taken, the first that is refused, and what comes first. */
public final class RefusalTests extends Checks {
    private static final Consumer<TrolleyAtEleven> EMPTY = x -> { };
    private static final Consumer<TrolleyAtEleven> ONE = x -> told(x, "fo4050;");
    private static final Consumer<TrolleyAtEleven> FULL = RefusalTests::full;
    private static final Consumer<TrolleyAtEleven> ROW_FULL = RefusalTests::rowFull;
    private static final Consumer<TrolleyAtEleven> LETTERS_FULL = x -> tell(x, "s1;".repeat(31) + "s8;");

    /** Six floors, an image of two of them, a row that is so, half a statement, some refusals. */
    private static void full(TrolleyAtEleven x) {
        told(x, "fo1010;fd2020;u0555;s2;r210;");
        x.image();
        told(x, "ft2153;fd9040;fg1120;fq5080;u3880;b090805;s3;g17;r204;x04;x15;");
        for (int i = 0; i < 6; i++) x.row(x.at(i, 2));
        tell(x, "s7");
        x.place(6);
        x.set(10, 0);
        x.letter(-1);
        x.letter(256);
    }

    private static void rowFull(TrolleyAtEleven x) {
        told(x, "fo4050;");
        for (int i = 0; i < 12; i++) x.row(i == 0 ? 5 : 99);
    }

    private interface OfOne {
        long call(TrolleyAtEleven x, int v);
    }

    private static void below(Consumer<TrolleyAtEleven> state, String name, OfOne call, int firstBelow) {
        for (int v : new int[] {firstBelow, firstBelow - 9, LEAST}) {
            refused(state, name + "(" + v + ")", x -> call.call(x, v), -4);
        }
    }

    private static void above(Consumer<TrolleyAtEleven> state, String name, OfOne call, int firstAbove) {
        for (int v : new int[] {firstAbove, firstAbove + 9, GREATEST}) {
            refused(state, name + "(" + v + ")", x -> call.call(x, v), -6);
        }
    }

    private static void other(Consumer<TrolleyAtEleven> state, String name, OfOne call, int firstOther) {
        for (int v : new int[] {-1, -2, LEAST, firstOther, firstOther + 1, GREATEST}) {
            refused(state, name + "(" + v + ")", x -> call.call(x, v), -2);
        }
    }

    /** With no floor, one, and six: the last there is is taken, the next is nobody. */
    private static void nobody(String name, OfOne call) {
        nobodyIn(EMPTY, name, call, 0);
        nobodyIn(ONE, name, call, 1);
        nobodyIn(FULL, name, call, 6);
    }

    private static void nobodyIn(Consumer<TrolleyAtEleven> state, String name, OfOne call, int floors) {
        for (int v : new int[] {-1, -2, LEAST, floors, floors + 1, GREATEST}) {
            refused(state, name + "(" + v + ") of " + floors, x -> call.call(x, v), -1);
        }
        for (int v = 0; v < floors; v++) {
            int floor = v;
            TrolleyAtEleven y = new TrolleyAtEleven();
            state.accept(y);
            long answer = call.call(y, floor);
            due(name + "(" + v + ") of " + floors + " is 0 at least", answer < 0 ? 0 : 1, 1);
            taken(state, name + "(" + v + ") of " + floors, x -> call.call(x, floor), answer);
        }
    }

    private static void letter() {
        for (int v : new int[] {0, 1, 127, 128, 254, 255}) {
            taken(EMPTY, "letter(" + v + ")", x -> x.letter(v), 1);
            taken(FULL, "letter(" + v + ")", x -> x.letter(v), 3);
        }
        below(EMPTY, "letter", TrolleyAtEleven::letter, -1);
        below(FULL, "letter", TrolleyAtEleven::letter, -1);
        above(EMPTY, "letter", TrolleyAtEleven::letter, 256);
        above(FULL, "letter", TrolleyAtEleven::letter, 256);
    }

    private static void lettersFull() {
        taken(x -> tell(x, "s".repeat(94)), "letter(0), the 95th", x -> x.letter(0), 95);
        taken(x -> tell(x, "s".repeat(95)), "letter(255), the 96th", x -> x.letter(255), 96);
        for (int v : new int[] {0, ';', 255}) refused(LETTERS_FULL, "letter(" + v + "), the 97th", x -> x.letter(v), -6);
        above(LETTERS_FULL, "letter, the 97th", TrolleyAtEleven::letter, 256);
        below(LETTERS_FULL, "letter, the 97th", TrolleyAtEleven::letter, -1);
        taken(x -> told(x, "s".repeat(96)), "letter(7) behind house()", x -> x.letter(7), 1);
    }

    private static void story() {
        for (int what = 0; what <= 4; what++) {
            int w = what;
            nobody("story(.., " + w + ")", (x, v) -> x.story(v, w));
        }
        for (int floor = 0; floor < 6; floor++) {
            int f = floor;
            other(FULL, "story of " + f, (x, v) -> x.story(f, v), 5);
        }
        nobodyBeforeAll("story", (x, v) -> x.story(v, 5));
    }

    private static void nobodyBeforeAll(String name, OfOne call) {
        for (int v : new int[] {-1, 6}) refused(FULL, name + ", nobody first, " + v, x -> call.call(x, v), -1);
        refused(EMPTY, name + ", nobody first", x -> call.call(x, 0), -1);
    }

    private static void place() {
        nobody("place", TrolleyAtEleven::place);
    }

    private static void change() {
        for (int v : new int[] {-1, LEAST, 6, 7, GREATEST}) {
            refused(FULL, "change(" + v + ", 0)", x -> x.change(v, 0), -1);
            refused(FULL, "change(0, " + v + ")", x -> x.change(0, v), -1);
            refused(FULL, "change of " + v + " twice", x -> x.change(v, v), -1);
        }
        for (int floor = 0; floor < 6; floor++) {
            int f = floor;
            refused(FULL, "change(" + f + ") twice", x -> x.change(f, f), -1);
        }
        refused(EMPTY, "change(0, 1) of none", x -> x.change(0, 1), -1);
        refused(ONE, "change(0, 1) of one", x -> x.change(0, 1), -1);
        refused(ONE, "change(1, 0) of one", x -> x.change(1, 0), -1);
        refused(ONE, "change(0, 0) of one", x -> x.change(0, 0), -1);
        Consumer<TrolleyAtEleven> two = x -> told(x, "fo4050;fo4050;");
        taken(two, "change(0, 1) of two", x -> x.change(0, 1), 1);
        taken(two, "change(1, 0) of two", x -> x.change(1, 0), 0);
        taken(x -> told(x, SIX), "change(0, 5) of six", x -> x.change(0, 5), 5);
        taken(x -> told(x, SIX), "change(5, 0) of six", x -> x.change(5, 0), 0);
    }

    private static void people() {
        nobody("people(.., 1)", (x, v) -> x.people(v, 1));
        nobody("people(.., 20)", (x, v) -> x.people(v, 20));
        below(FULL, "people(0, ..)", (x, v) -> x.people(0, v), 0);
        below(FULL, "people(5, ..)", (x, v) -> x.people(5, v), 0);
        above(FULL, "people(0, ..)", (x, v) -> x.people(0, v), 21);
        above(FULL, "people(5, ..)", (x, v) -> x.people(5, v), 21);
        taken(FULL, "people(5, 1)", x -> x.people(5, 1), 8);
        taken(FULL, "people(5, 20)", x -> x.people(5, 20), 8);
        nobodyBeforeAll("people(.., 0)", (x, v) -> x.people(v, 0));
        nobodyBeforeAll("people(.., 21)", (x, v) -> x.people(v, 21));
    }

    private static void set() {
        int[] were = {38, 80, 9, 8, 5, 3, 1, 7, 2, 4};
        int[] most = {40, 99, 60, 60, 60, 9, 1, 9, 2, 20};
        for (int what = 0; what < 10; what++) {
            int w = what;
            taken(FULL, "set(" + w + ", 0)", x -> x.set(w, 0), were[w]);
            taken(FULL, "set(" + w + ", most)", x -> x.set(w, most[w]), were[w]);
            below(FULL, "set(" + w + ", ..)", (x, v) -> x.set(w, v), -1);
            above(FULL, "set(" + w + ", ..)", (x, v) -> x.set(w, v), most[w] + 1);
        }
        for (int v : new int[] {0, -1, 100}) other(FULL, "set(.., " + v + ")", (x, what) -> x.set(what, v), 10);
        other(EMPTY, "set(.., 0)", (x, what) -> x.set(what, 0), 10);
    }

    private static void come() {
        nobody("come(.., 0)", (x, v) -> x.come(v, 0));
        nobody("come(.., 999)", (x, v) -> x.come(v, 999));
        below(FULL, "come(0, ..)", (x, v) -> x.come(0, v), -1);
        above(FULL, "come(5, ..)", (x, v) -> x.come(5, v), 1000);
        taken(FULL, "come(5, 0)", x -> x.come(5, 0), 0);
        taken(FULL, "come(5, 999)", x -> x.come(5, 999), 8);
        nobodyBeforeAll("come(.., -1)", (x, v) -> x.come(v, -1));
        nobodyBeforeAll("come(.., 1000)", (x, v) -> x.come(v, 1000));
    }

    private static void going() {
        for (Consumer<TrolleyAtEleven> state : java.util.List.of(EMPTY, FULL)) {
            below(state, "going(.., 0)", (x, v) -> x.going(v, 0), -1);
            below(state, "going(0, ..)", (x, v) -> x.going(0, v), -1);
            above(state, "going(.., 9)", (x, v) -> x.going(v, 9), 10);
            above(state, "going(9, ..)", (x, v) -> x.going(9, v), 10);
        }
        refused(EMPTY, "going(10, -1), below first", x -> x.going(10, -1), -4);
        refused(EMPTY, "going(-1, 10), below first", x -> x.going(-1, 10), -4);
        asked(EMPTY, "going(0, 9)", x -> x.going(0, 9), 10);
        asked(EMPTY, "going(9, 0)", x -> x.going(9, 0), 10);
        asked(FULL, "going(0, 9) by the ramp", x -> x.going(0, 9), 27);
        asked(FULL, "going(9, 0) by the ramp", x -> x.going(9, 0), 27);
    }

    private static void total() {
        other(EMPTY, "total", TrolleyAtEleven::total, 8);
        other(FULL, "total", TrolleyAtEleven::total, 8);
        for (int what = 0; what < 8; what++) {
            int w = what;
            asked(EMPTY, "total(" + w + ")", x -> x.total(w), 0);
        }
    }

    private static void at() {
        for (int what = 0; what < 4; what++) {
            int w = what;
            nobody("at(.., " + w + ")", (x, v) -> x.at(v, w));
        }
        other(FULL, "at(0, ..)", (x, v) -> x.at(0, v), 4);
        other(FULL, "at(5, ..)", (x, v) -> x.at(5, v), 4);
        nobodyBeforeAll("at(.., 4)", (x, v) -> x.at(v, 4));
    }

    private static void when() {
        nobody("when", TrolleyAtEleven::when);
    }

    private static void best() {
        other(EMPTY, "best", TrolleyAtEleven::best, 8);
        other(FULL, "best", TrolleyAtEleven::best, 8);
        for (int what = 0; what < 8; what++) {
            int w = what;
            asked(EMPTY, "best(" + w + ")", x -> x.best(w), 0);
        }
    }

    private static void bestAt() {
        for (int what = 0; what < 8; what++) {
            int w = what;
            nobody("bestAt(" + w + ", ..)", (x, v) -> x.bestAt(w, v));
        }
        for (int i : new int[] {0, 5, -1, 6}) other(FULL, "bestAt(.., " + i + ")", (x, v) -> x.bestAt(v, i), 8);
        other(EMPTY, "bestAt(.., 0), the other first", (x, v) -> x.bestAt(v, 0), 8);
    }

    private static void turned() {
        nobody("turned", TrolleyAtEleven::turned);
    }

    private static void enough() {
        other(EMPTY, "enough", TrolleyAtEleven::enough, 3);
        other(FULL, "enough", TrolleyAtEleven::enough, 3);
        for (int sort = 0; sort < 3; sort++) {
            int s = sort;
            asked(EMPTY, "enough(" + s + ")", x -> x.enough(s), 0);
        }
    }

    private static void keep() {
        other(EMPTY, "keep", TrolleyAtEleven::keep, 2);
        other(FULL, "keep", TrolleyAtEleven::keep, 2);
        asked(EMPTY, "keep(0)", x -> x.keep(0), 0);
        asked(EMPTY, "keep(1)", x -> x.keep(1), 0);
    }

    private static void late() {
        for (Consumer<TrolleyAtEleven> state : java.util.List.of(EMPTY, ONE, FULL)) {
            for (int part : new int[] {0, 1, -1, 2}) {
                for (int t : new int[] {-1, -2, LEAST}) {
                    refused(state, "late(" + t + ", " + part + ")", x -> x.late(t, part), -4, FAR + 4);
                }
                for (int t : new int[] {11, 12, GREATEST}) {
                    refused(state, "late(" + t + ", " + part + ")", x -> x.late(t, part), -6, FAR + 6);
                }
            }
            for (int part : new int[] {-1, 2, LEAST, GREATEST}) {
                refused(state, "late(0, " + part + ")", x -> x.late(0, part), -2, FAR + 2);
                refused(state, "late(10, " + part + ")", x -> x.late(10, part), -2, FAR + 2);
            }
        }
        asked(EMPTY, "late(0, 0)", x -> x.late(0, 0), 0);
        asked(EMPTY, "late(0, 1)", x -> x.late(0, 1), 1);
        asked(EMPTY, "late(10, 0)", x -> x.late(10, 0), 0);
        asked(EMPTY, "late(10, 1)", x -> x.late(10, 1), 1);
    }

    private static void more() {
        nobody("more", TrolleyAtEleven::more);
    }

    private static void squeak() {
        for (Consumer<TrolleyAtEleven> state : java.util.List.of(EMPTY, FULL)) {
            below(state, "squeak", TrolleyAtEleven::squeak, -1);
            above(state, "squeak", TrolleyAtEleven::squeak, 10);
        }
        asked(EMPTY, "squeak(0)", x -> x.squeak(0), 0);
        asked(EMPTY, "squeak(9)", x -> x.squeak(9), 0);
    }

    private static void row() {
        for (int v : new int[] {0, 1, 98, 99}) {
            taken(EMPTY, "row(" + v + ")", x -> x.row(v), 1);
            taken(FULL, "row(" + v + ")", x -> x.row(v), 7);
        }
        below(EMPTY, "row", TrolleyAtEleven::row, -1);
        below(FULL, "row", TrolleyAtEleven::row, -1);
        above(EMPTY, "row", TrolleyAtEleven::row, 100);
        above(FULL, "row", TrolleyAtEleven::row, 100);
    }

    private static void rowFull() {
        Consumer<TrolleyAtEleven> eleven = x -> { for (int i = 0; i < 11; i++) x.row(i); };
        taken(eleven, "row(0), the 12th", x -> x.row(0), 12);
        taken(eleven, "row(99), the 12th", x -> x.row(99), 12);
        for (int v : new int[] {0, 5, 99}) refused(ROW_FULL, "row(" + v + "), the 13th", x -> x.row(v), -6);
        above(ROW_FULL, "row, the 13th", TrolleyAtEleven::row, 100);
        below(ROW_FULL, "row, the 13th", TrolleyAtEleven::row, -1);
        taken(x -> { rowFull(x); x.judge(); }, "row(5) behind judge()", x -> x.row(5), 1);
    }

    private static void fits() {
        below(EMPTY, "fits", TrolleyAtEleven::fits, -2);
        below(FULL, "fits", TrolleyAtEleven::fits, -2);
        for (int i : new int[] {0, 1, GREATEST}) refused(EMPTY, "fits(" + i + ")", x -> x.fits(i), -1);
        for (int i : new int[] {1, 2, GREATEST}) refused(ONE, "fits(" + i + ")", x -> x.fits(i), -1);
        for (int i : new int[] {6, 7, GREATEST}) refused(FULL, "fits(" + i + ")", x -> x.fits(i), -1);
        asked(EMPTY, "fits(-1)", x -> x.fits(-1), 1);
        asked(ONE, "fits(-1)", x -> x.fits(-1), 1);
        asked(ONE, "fits(0)", x -> x.fits(0), 0);
        asked(ROW_FULL, "fits(-1)", x -> x.fits(-1), 0);
        asked(ROW_FULL, "fits(0)", x -> x.fits(0), -9);
        refused(ROW_FULL, "fits(1), nobody though none fits", x -> x.fits(1), -1);
        taken(x -> told(x, SIX), "fits(5)", x -> x.fits(5), 5);
    }

    private static void lots() {
        for (Consumer<TrolleyAtEleven> state : java.util.List.of(EMPTY, FULL)) {
            for (int z : new int[] {0, -1, LEAST, GREATEST}) {
                below(state, "lots(.., " + z + ")", (x, n) -> x.lots(n, z), 0);
                above(state, "lots(.., " + z + ")", (x, n) -> x.lots(n, z), 21);
            }
        }
        asked(EMPTY, "lots(1, 0)", x -> x.lots(1, 0), 0);
        asked(EMPTY, "lots(20, 0)", x -> x.lots(20, 0), 0);
    }

    private static void on() {
        refused(EMPTY, "on()", TrolleyAtEleven::on, -3);
        refused(ONE, "on()", TrolleyAtEleven::on, -3);
        refused(LETTERS_FULL, "on()", TrolleyAtEleven::on, -3);
        taken(x -> x.image(), "on() of an image of none", TrolleyAtEleven::on, 0);
        taken(FULL, "on()", TrolleyAtEleven::on, 2);
        taken(x -> { full(x); x.on(); }, "on() again", TrolleyAtEleven::on, 2);
    }

    /** -9 is an answer, and no refusal. */
    private static void count() {
        for (int what : new int[] {-1, 10, 17, LEAST, GREATEST}) {
            asked(EMPTY, "count(" + what + ")", x -> x.count(what), -9);
            asked(FULL, "count(" + what + ")", x -> x.count(what), -9);
        }
        for (int what : new int[] {0, 9, 11, 16}) {
            int[] answers = {6, 0, 0, 0, 0, 0, 0, 0, 0, 2, 0, 1, 1, 0, 1, 0, 1};
            asked(FULL, "count(" + what + ")", x -> x.count(what), answers[what]);
        }
    }

    /** These have no refusal, and answer without floors, too. */
    private static void neverRefused() {
        asked(EMPTY, "most()", TrolleyAtEleven::most, 0);
        asked(EMPTY, "fill()", TrolleyAtEleven::fill, 0);
        asked(EMPTY, "ramp()", TrolleyAtEleven::ramp, 0);
        asked(EMPTY, "oneEach()", TrolleyAtEleven::oneEach, 0);
        asked(EMPTY, "machine()", TrolleyAtEleven::machine, 0);
        asked(EMPTY, "saves()", TrolleyAtEleven::saves, 0);
        asked(EMPTY, "judge()", TrolleyAtEleven::judge, -9);
        taken(EMPTY, "house()", TrolleyAtEleven::house, -1000);
        taken(EMPTY, "image()", TrolleyAtEleven::image, 0);
        taken(FULL, "house()", TrolleyAtEleven::house, -1002);
        taken(FULL, "judge()", TrolleyAtEleven::judge, -9);
        taken(FULL, "image()", TrolleyAtEleven::image, 6);
        taken(ROW_FULL, "judge()", TrolleyAtEleven::judge, 1);
        taken(LETTERS_FULL, "house()", TrolleyAtEleven::house, 32);
    }

    /** What is only asked changes nothing, refused or not. */
    private static void onlyAsked() {
        TrolleyAtEleven y = new TrolleyAtEleven();
        full(y);
        String[] names = {"total", "at", "when", "best", "bestAt", "turned", "most", "enough", "fill", "ramp", "keep",
            "oneEach", "machine", "saves", "late", "more", "squeak", "fits", "lots", "story", "place", "come", "count"};
        for (String name : names) {
            ToLongFunction<TrolleyAtEleven> call = x -> asking(x, name);
            asked(FULL, name, call, asking(y, name));
        }
    }

    private static long asking(TrolleyAtEleven x, String name) {
        switch (name) {
            case "total": return x.total(7);
            case "at": return x.at(5, 1);
            case "when": return x.when(2);
            case "best": return x.best(6);
            case "bestAt": return x.bestAt(6, 5);
            case "turned": return x.turned(0);
            case "most": return x.most();
            case "enough": return x.enough(1);
            case "fill": return x.fill();
            case "ramp": return x.ramp();
            case "keep": return x.keep(0);
            case "oneEach": return x.oneEach();
            case "machine": return x.machine();
            case "saves": return x.saves();
            case "late": return x.late(5, 0);
            case "more": return x.more(0);
            case "squeak": return x.squeak(4);
            case "fits": return x.fits(5);
            case "lots": return x.lots(20, 7);
            case "story": return x.story(5, 4);
            case "place": return x.place(5);
            case "come": return x.come(5, 9);
            default: return x.count(12);
        }
    }

    /** All of an object's 512 calls may be refusals; each is counted. */
    private static void counted() {
        TrolleyAtEleven x = new TrolleyAtEleven();
        for (int i = 0; i < 100; i++) {
            x.place(0);
            x.total(8);
            x.on();
            x.letter(-1);
            x.letter(256);
        }
        int[] want = {100, 100, 100, 100, 0, 100};
        for (int r = 0; r < 6; r++) due("count(" + (11 + r) + ")", x.count(11 + r), want[r]);
        TrolleyAtEleven y = new TrolleyAtEleven();
        for (int i = 0; i < 100; i++) {
            due("late(-1, 0)", y.late(-1, 0), 4000000000000000004L);
            due("late(11, 0)", y.late(11, 0), 4000000000000000006L);
            due("late(0, 2)", y.late(0, 2), 4000000000000000002L);
        }
        int[] late = {0, 100, 0, 100, 0, 100};
        for (int r = 0; r < 6; r++) due("count(" + (11 + r) + ") of late", y.count(11 + r), late[r]);
    }

    public static void main(String[] args) {
        run("2 letter \"-4; -6 (255 ..)\"", RefusalTests::letter);
        run("2 letter \"96, too\"", RefusalTests::lettersFull);
        run("4 story \"-1; -2\"", RefusalTests::story);
        run("5 place \"-1 no such place\"", RefusalTests::place);
        run("6 change \"-1 either (one twice, too)\"", RefusalTests::change);
        run("7 people \"-1; -4 below 1; -6 20\"", RefusalTests::people);
        run("8 set \"-2; -4; -6\"", RefusalTests::set);
        run("9 come \"-1; -4; -6 999\"", RefusalTests::come);
        run("10 going \"-4 either; -6 9\"", RefusalTests::going);
        run("11 total \"-2\"", RefusalTests::total);
        run("12 at \"-1 no such place; -2\"", RefusalTests::at);
        run("13 when \"-1\"", RefusalTests::when);
        run("14 best \"-2\"", RefusalTests::best);
        run("15 bestAt \"-2; -1 no such place\"", RefusalTests::bestAt);
        run("16 turned \"-1\"", RefusalTests::turned);
        run("18 enough \"-2\"", RefusalTests::enough);
        run("21 keep \"-2\"", RefusalTests::keep);
        run("25 late \"Refused as told: -4; -6 10; -2\"", RefusalTests::late);
        run("26 more \"-1\"", RefusalTests::more);
        run("27 squeak \"-4; -6 9\"", RefusalTests::squeak);
        run("28 row \"-4; -6 (99 ..)\"", RefusalTests::row);
        run("28 row \"12, too\"", RefusalTests::rowFull);
        run("29 fits \"-4 below -1; -1 no such place\"", RefusalTests::fits);
        run("31 lots \"-4; -6 20\"", RefusalTests::lots);
        run("33 on \"-3 there is none\"", RefusalTests::on);
        run("34 count \"-9 for another what\"", RefusalTests::count);
        run("no refusal told", RefusalTests::neverRefused);
        run("in mind alone", RefusalTests::onlyAsked);
        run("\"how many there were\"", RefusalTests::counted);
        end();
    }
}
