import java.util.NoSuchElementException;

/** How answers are asked and held against those that are due, and the texts that many tests begin with. */
abstract class Checks {
    static final int LOW = Integer.MIN_VALUE;
    static final int HIGH = Integer.MAX_VALUE;
    /** What led answers here where it throws. */
    static final int THROWN = -99;

    private static int wrong = 0;
    private static int asked = 0;
    /** What of the document is asked for. */
    static String promise = "";

    static void end() {
        System.out.println(asked + " answers asked, " + wrong + " not as due");
        if (wrong != 0) {
            System.exit(1);
        }
    }

    static void due(String what, long got, long want) {
        asked++;
        if (got != want) {
            wrong++;
            System.out.println(promise + ": " + what + " answered " + got + ", due is " + want);
        }
    }

    static void due(String what, boolean got, boolean want) {
        due(what, got ? 1 : 0, want ? 1 : 0);
    }

    /** A call that is refused: what it answers, and why. */
    static void no(ElderTurn x, String what, long got, long want, int why) {
        due(what, got, want);
        due(what + ": trouble", x.trouble(), why);
    }

    static void no(ElderTurn x, String what, long got, int why) {
        no(x, what, got, ElderTurn.NONE, why);
    }

    static void no(ElderTurn x, String what, boolean got, int why) {
        no(x, what, got ? 1 : 0, 0, why);
    }

    static void yes(ElderTurn x, String what, long got, long want) {
        no(x, what, got, want, 0);
    }

    static void yes(ElderTurn x, String what, boolean got) {
        no(x, what, got ? 1 : 0, 1, 0);
    }

    static void elders(ElderTurn x, int... want) {
        for (int year = 0; year < want.length; year++) {
            yes(x, "elder(" + year + ")", x.elder(year), want[year]);
        }
    }

    static int led(ElderTurn x, int i) {
        try {
            return x.led(i);
        } catch (NoSuchElementException none) {
            return THROWN;
        }
    }

    static String head(int years, String law, int fare) {
        return "family years " + years + " law " + law + " fare " + fare;
    }

    /** The line of a person of which only some is of weight. */
    static String someone(String name, String kind, String side, String age, int strong) {
        return ";person " + name + " " + kind + " branch " + side + " " + age + " strong " + strong
                + " weighs 1 frail 0";
    }

    static String plain(String name, int age) {
        return someone(name, "plain", "left", "age " + age, 9);
    }

    static final String THREE = plain("a", 40) + plain("b", 30) + plain("c", 50);

    /** A family of which most is told once. */
    static final String FULL = "family years 6 law eldest fare 5"
            + ";person a plain branch left age 40 strong 3 weighs 2 frail 10"
            + ";person b twin branch right age 30 strong 9 weighs 1 frail 20"
            + ";person c cousin branch left age 50 strong 1 weighs 3 frail 50"
            + ";person d soldier branch right born 2 strong 2 weighs 0 frail 0"
            + ";plan a 1 to 2 harm 7;plan b 0 to 5 harm 3;plan c 0 to 0 harm 9"
            + ";secret k a;secret m c;hides a k b;diary 0 c;not 2 a";

    static void fault(String text, int number, int place) {
        ElderTurn x = new ElderTurn();
        no(x, "'" + text + "'", Texts.family(x, text), 4);
        due("'" + text + "': fault", x.fault(), number);
        due("'" + text + "': where", x.where(), place);
    }

    static void whole(String text, int people) {
        ElderTurn x = new ElderTurn();
        yes(x, "'" + text + "'", Texts.family(x, text), people);
        due("'" + text + "': fault", x.fault(), 0);
        due("'" + text + "': where", x.where(), -1);
    }
}
