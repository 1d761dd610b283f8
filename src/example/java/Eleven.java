/** A house of three floors: told, asked, and what could be otherwise. */
public final class Eleven {
    private static void tell(TrolleyAtEleven x, String text) {
        for (int i = 0; i < text.length(); i++) x.letter(text.charAt(i));
    }

    public static void main(String[] args) {
        TrolleyAtEleven x = new TrolleyAtEleven();
        tell(x, "fo4122;fm7091;fg2153;x20;b121008;");
        System.out.println(x.house() + " statements, " + x.count(0) + " floors, " + x.count(1) + " people");
        for (int i = 0; i < x.count(0); i++) {
            System.out.println("floor " + x.place(i) + " in minute " + x.at(i, 0) + ": " + x.at(i, 1) + " degrees, "
                + x.at(i, 2) + " served, " + x.at(i, 3) + " iced buns");
        }
        System.out.println("cost " + x.total(7) + ", at best " + x.best(7) + " if she begins at floor " + x.bestAt(7, 0));
        System.out.println("plain buns enough: " + x.enough(2) + ", bunless: " + x.total(5) + ", fewer by one each: " + x.oneEach());
        System.out.println("on the way if the lift fails 3 of 10 times: " + x.late(3, 0) + "/" + x.late(3, 1));

        x.image();
        System.out.println("keep back " + x.keep(0) + ", not " + x.set(9, x.keep(0)) + ": the last floor gets " + x.keep(1));
        System.out.println("iced buns at the last floor now: " + x.at(2, 3));
        x.on();
        System.out.println("iced buns at the last floor as it was: " + x.at(2, 3));

        tell(x, "s12;");
        System.out.println("a fault of letters: " + x.house());
        tell(x, "s1;x33;");
        System.out.println("a fault of numbers: " + x.house());
        System.out.println("no such floor: " + x.when(3) + ", so far " + x.count(11));
    }
}
