import java.lang.reflect.InvocationTargetException;
import java.lang.reflect.Method;
import java.util.ArrayList;
import java.util.Comparator;
import java.util.List;
import java.util.Random;
import java.util.function.Consumer;

/** No call throws, for any arguments in any state; what was, but is no more, tells on no answer. */
public final class AnyCallTests extends Checks {
    private static final int[] WILD = {LEAST, LEAST + 1, -1000000, -256, -2, -1, 0, 1, 2, 5, 6, 7, 9, 10, 11, 16, 17, 20,
        21, 60, 61, 96, 99, 100, 255, 256, 999, 1000, 1000000, GREATEST - 1, GREATEST};
    private static final String[] HOUSES = {"", "fo4122;", SIX, "fg9209;fm0200;u0000;b000000;s9;g19;r220;",
        "fq0010;fq9200;fq0010;fq9200;fq0010;fq9209;u0000;b606060;s0;g19;r120;", "fd9209;fd0209;u0099;g09;r020;x01;"};
    private static final int[] FEW = {-1, 0, 1, 2, 3, 4, 6};
    /** Few buns and cold cups; few cups; as many cups as come. By MORE all cups are cold, and all come to the meeting. */
    private static final String[] SMALL = {"fo5050;fm9051;fo4050;b030202;u4059;x02;", "fo5050;fm9051;fo4050;u0659;r000;",
        "fo5050;fm9051;fo4050;x01;u1060;r000;"};
    private static final String MORE_FLOORS = "fo4053;fo9050;fo0059;u4058;b201010;s0;g19;r003;";
    private static final String[] MORE = {MORE_FLOORS + "x04;x15;", MORE_FLOORS + "x50;x23;", MORE_FLOORS + "x10;x34;"};
    private static final List<Method> CALLS = calls();

    private static List<Method> calls() {
        List<Method> all = new ArrayList<>();
        for (Method m : TrolleyAtEleven.class.getMethods()) {
            if (m.getDeclaringClass() == TrolleyAtEleven.class) all.add(m);
        }
        all.sort(Comparator.comparing(Method::getName));
        return all;
    }

    /** What it answers; what it throws is told as a fault. */
    private static long answer(TrolleyAtEleven x, Method call, int a, int b) {
        Object[] arguments = new Object[call.getParameterCount()];
        for (int i = 0; i < arguments.length; i++) arguments[i] = i == 0 ? a : b;
        try {
            long answer = ((Number) call.invoke(x, arguments)).longValue();
            due(call.getName(), 0, 0);
            return answer;
        } catch (InvocationTargetException | IllegalAccessException e) {
            due(call.getName() + "(" + a + ", " + b + ") threw " + e.getCause(), 0, 1);
            return 0;
        }
    }

    private static void eachPairOf(Method call, TrolleyAtEleven x) {
        int pairs = call.getParameterCount() > 1 ? WILD.length : 1;
        for (int a : WILD) {
            for (int i = 0; i < pairs; i++) answer(x, call, a, WILD[i]);
        }
    }

    /** Each call with each pair of arguments, in a state of its own and in the one the last call has left. */
    private static void eachCall() {
        due("calls", CALLS.size(), 33);
        for (String house : HOUSES) {
            TrolleyAtEleven worn = new TrolleyAtEleven();
            for (Method call : CALLS) {
                TrolleyAtEleven x = house.isEmpty() ? new TrolleyAtEleven() : housed(house);
                x.row(7);
                eachPairOf(call, x);
                eachPairOf(call, worn);
                told(worn, house);
            }
        }
    }

    private static int argument(Random r) {
        return r.nextInt(4) == 0 ? WILD[r.nextInt(WILD.length)] : r.nextInt(12) - 1;
    }

    private static void anyCall(TrolleyAtEleven x, Random r, StringBuilder answers) {
        if (r.nextInt(20) == 0) answers.append(told(x, HOUSES[r.nextInt(HOUSES.length)])).append(' ');
        Method call = CALLS.get(r.nextInt(CALLS.size()));
        answers.append(call.getName()).append(' ').append(answer(x, call, argument(r), argument(r))).append(' ');
    }

    /** "what later calls answer is free": but they answer. */
    private static void farBeyond() {
        TrolleyAtEleven x = new TrolleyAtEleven();
        Random r = new Random(11);
        StringBuilder answers = new StringBuilder();
        for (int i = 0; i < 20000; i++) anyCall(x, r, answers);
        due("it answered", answers.length() > 0 ? 1 : 0, 1);
    }

    private static String alone(int seed, int calls) {
        TrolleyAtEleven x = new TrolleyAtEleven();
        Random r = new Random(seed);
        StringBuilder answers = new StringBuilder();
        for (int i = 0; i < calls; i++) anyCall(x, r, answers);
        return answers.toString();
    }

    /** Several objects, a call of each in turn, beside each alone. */
    private static void inTurn() {
        int objects = 8;
        int calls = 150;
        TrolleyAtEleven[] all = new TrolleyAtEleven[objects];
        Random[] seeds = new Random[objects];
        StringBuilder[] answers = new StringBuilder[objects];
        for (int k = 0; k < objects; k++) {
            all[k] = new TrolleyAtEleven();
            seeds[k] = new Random(k / 2);
            answers[k] = new StringBuilder();
        }
        for (int i = 0; i < calls; i++) {
            for (int k = 0; k < objects; k++) anyCall(all[k], seeds[k], answers[k]);
        }
        for (int k = 0; k < objects; k++) {
            due("object " + k + " in turn as alone", answers[k].toString().equals(alone(k / 2, calls)) ? 1 : 0, 1);
        }
    }

    /** All of the row is so, but the fourth number, which is beyond the floors; it is so of MORE. */
    private static void small(TrolleyAtEleven x, int which, int inRow) {
        told(x, SMALL[which]);
        for (int i = 0; i < inRow; i++) x.row(i < 3 ? x.at(i, 2) : 5);
    }

    private static void backFromMore(TrolleyAtEleven x, int which, int inRow) {
        small(x, which, inRow);
        x.image();
        told(x, MORE[which]);
        askAll(x);
        x.people(5, 9);
        x.total(7);
        x.on();
    }

    /** Each call, asked first of all behind one way to a house, beside the same behind another. */
    private static void alike(String what, Consumer<TrolleyAtEleven> way, Consumer<TrolleyAtEleven> other) {
        for (Method call : CALLS) {
            for (int a : FEW) {
                for (int b : FEW) {
                    TrolleyAtEleven x = new TrolleyAtEleven();
                    TrolleyAtEleven y = new TrolleyAtEleven();
                    way.accept(x);
                    other.accept(y);
                    due(what + " " + call.getName() + "(" + a + ", " + b + ")", answer(x, call, a, b), answer(y, call, a, b));
                    if (call.getParameterCount() < 2) break;
                }
                if (call.getParameterCount() < 1) break;
            }
        }
    }

    /** "ON from it all is as then": nothing is left of the floors that came behind it. */
    private static void behindOn(int which, int inRow) {
        Consumer<TrolleyAtEleven> image = x -> { small(x, which, inRow); x.image(); };
        Consumer<TrolleyAtEleven> back = x -> backFromMore(x, which, inRow);
        alike("behind on()", back, image);
        for (String more : new String[] {"fm9209;", MORE[which]}) {
            alike("behind on() and " + more, back.andThen(x -> told(x, more)), image.andThen(x -> told(x, more)));
        }
    }

    /** "with one nothing": nothing is left of the floors ahead of the FAULT. */
    private static void behindFault(int which, int inRow) {
        Consumer<TrolleyAtEleven> small = x -> small(x, which, inRow);
        for (String fault : new String[] {"q", "x00;", "u4100;", "s"}) {
            alike("behind a FAULT of " + fault, small.andThen(x -> told(x, MORE[which] + fault)), small);
        }
    }

    private static void askAll(TrolleyAtEleven x) {
        for (int what = 1; what < 8; what += 5) x.bestAt(what, 0);
        for (int sort = 0; sort < 3; sort++) x.enough(sort);
        for (int n = 1; n <= 20; n += 19) x.lots(n, n);
        x.most();
        x.fill();
        x.ramp();
        x.keep(0);
        x.oneEach();
        x.late(5, 0);
        x.more(0);
        x.fits(0);
    }

    /** "TOTALS of a ROUND, in mind": nothing is left of what was asked. */
    private static void behindAsking(int which, int inRow) {
        Consumer<TrolleyAtEleven> small = x -> small(x, which, inRow);
        Consumer<TrolleyAtEleven> more = small.andThen(x -> told(x, MORE[which]));
        alike("behind all that is asked", small.andThen(AnyCallTests::askAll), small);
        alike("behind all that is asked of more", more.andThen(AnyCallTests::askAll), more);
    }

    private static void behind() {
        for (int which = 0; which < SMALL.length; which++) {
            for (int inRow = 3; inRow <= 4; inRow++) {
                behindOn(which, inRow);
                behindFault(which, inRow);
                behindAsking(which, inRow);
            }
        }
    }

    public static void main(String[] args) {
        run("no call throws", AnyCallTests::eachCall);
        run("\"nothing about an object after its 512th call\"", AnyCallTests::farBeyond);
        run("\"ON from it all is as then\"; \"with one nothing\"; \"in mind\"", AnyCallTests::behind);
        run("the same calls give the same answers", AnyCallTests::inTurn);
        end();
    }
}
