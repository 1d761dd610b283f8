import java.util.function.Consumer;
import java.util.function.ToLongFunction;

/** What the tests share: how an answer is looked at, a house is told, and a refused call is seen to change nothing. */
abstract class Checks {
    static final long FAR = 4000000000000000000L;
    static final int LEAST = Integer.MIN_VALUE;
    static final int GREATEST = Integer.MAX_VALUE;
    static final String SIX = "fo4122;fm7091;ft2153;fd9040;fg1120;fq5080;";
    private static final int MOST_PRINTED = 50;
    private static int wrong = 0;
    private static int checked = 0;
    private static String sentence = "";

    static void due(String call, long got, long want) {
        checked++;
        if (got != want) notDue(call + " answered " + got + ", due is " + want);
    }

    private static void same(String what, String got, String want) {
        checked++;
        if (!got.equals(want)) notDue(what + ": " + got + ", due is " + want);
    }

    private static void notDue(String what) {
        wrong++;
        if (wrong <= MOST_PRINTED) System.out.println(sentence + ": " + what);
    }

    static void run(String name, Runnable test) {
        sentence = name;
        test.run();
    }

    static void end() {
        System.out.println(checked + " answers looked at, " + wrong + " not as due");
        if (wrong != 0) System.exit(1);
    }

    static TrolleyAtEleven tell(TrolleyAtEleven x, String text) {
        for (int i = 0; i < text.length(); i++) x.letter(text.charAt(i));
        return x;
    }

    static int told(TrolleyAtEleven x, String text) {
        return tell(x, text).house();
    }

    static TrolleyAtEleven housed(String text) {
        TrolleyAtEleven x = new TrolleyAtEleven();
        int answer = told(x, text);
        if (answer < 0) due("house() of " + text, answer, 1);
        return x;
    }

    static void totals(TrolleyAtEleven x, int... want) {
        for (int what = 0; what < want.length; what++) due("total(" + what + ")", x.total(what), want[what]);
    }

    static void bestOrder(TrolleyAtEleven x, int what, int... want) {
        for (int i = 0; i < want.length; i++) due("bestAt(" + what + ", " + i + ")", x.bestAt(what, i), want[i]);
    }

    static void settings(TrolleyAtEleven x, int... want) {
        for (int what = 0; what < want.length; what++) due("set(" + what + ")", x.set(what, want[what]), want[what]);
    }

    /** All that can be seen of an object but its refusals, and nothing changed by looking. */
    static String seen(TrolleyAtEleven x) {
        StringBuilder all = new StringBuilder();
        int floors = x.count(0);
        for (int what = 0; what <= 9; what++) all.append(x.count(what)).append(' ');
        for (int i = 0; i < floors; i++) {
            for (int what = 0; what <= 4; what++) all.append(x.story(i, what)).append(' ');
            for (int what = 0; what <= 3; what++) all.append(x.at(i, what)).append(' ');
            all.append(x.place(i)).append(' ');
        }
        for (int what = 0; what <= 7; what++) all.append(x.total(what)).append(' ');
        for (int sort = 0; sort <= 2; sort++) all.append(x.enough(sort)).append(' ');
        all.append(x.best(6)).append(' ').append(x.fits(-1)).append(' ').append(x.going(0, 9));
        return all.toString();
    }

    /** All that there is, the numbers of the row, the letters and the image too; it spoils the object. */
    private static String everything(TrolleyAtEleven x) {
        StringBuilder all = new StringBuilder(seen(x));
        all.append(" row ").append(x.judge());
        all.append(" letters ").append(x.letter(';')).append(' ').append(x.house());
        all.append(" settings ");
        for (int what = 0; what <= 9; what++) all.append(x.set(what, 0)).append(' ');
        all.append(" image ").append(x.on()).append(' ').append(seen(x)).append(' ');
        for (int what = 0; what <= 9; what++) all.append(x.set(what, 0)).append(' ');
        return all.toString();
    }

    private static TrolleyAtEleven reached(Consumer<TrolleyAtEleven> state) {
        TrolleyAtEleven x = new TrolleyAtEleven();
        state.accept(x);
        return x;
    }

    /** A twin goes the same way without the call: all but one number of refusals must be as the twin's. */
    static void refused(Consumer<TrolleyAtEleven> state, String call, ToLongFunction<TrolleyAtEleven> calling,
            int refusal, long answer) {
        TrolleyAtEleven x = reached(state);
        TrolleyAtEleven twin = reached(state);
        due(call, calling.applyAsLong(x), answer);
        for (int r = 1; r <= 6; r++) {
            due(call + ", then count(" + (10 + r) + ")", x.count(10 + r), twin.count(10 + r) + (r == -refusal ? 1 : 0));
        }
        same(call + ", then all as without it", everything(x), everything(twin));
    }

    static void refused(Consumer<TrolleyAtEleven> state, String call, ToLongFunction<TrolleyAtEleven> calling, int refusal) {
        refused(state, call, calling, refusal, refusal);
    }

    /** The call answers so, no refusal is counted. */
    static void taken(Consumer<TrolleyAtEleven> state, String call, ToLongFunction<TrolleyAtEleven> calling, long answer) {
        TrolleyAtEleven x = reached(state);
        TrolleyAtEleven twin = reached(state);
        due(call, calling.applyAsLong(x), answer);
        for (int r = 1; r <= 6; r++) due(call + ", then count(" + (10 + r) + ")", x.count(10 + r), twin.count(10 + r));
    }

    /** As taken, and nothing of the object is changed by it. */
    static void asked(Consumer<TrolleyAtEleven> state, String call, ToLongFunction<TrolleyAtEleven> calling, long answer) {
        taken(state, call, calling, answer);
        TrolleyAtEleven x = reached(state);
        calling.applyAsLong(x);
        same(call + ", then all as without it", everything(x), everything(reached(state)));
    }
}
