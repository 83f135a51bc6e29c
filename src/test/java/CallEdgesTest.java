import java.util.ArrayList;
import java.util.List;
import java.util.Set;
import java.util.TreeSet;
import java.util.function.Supplier;

/** Each number that a call takes, just inside and just outside of its bounds; each refused call, and what it leaves. */
final class CallEdgesTest extends Checks {
    /** A call with one of its numbers left open. */
    private interface Call {
        long with(ElderTurn x, int v);
    }

    /** A call with all its numbers. */
    private interface Ask {
        long of(ElderTurn x);
    }

    private record Refusal(String call, Ask ask, long answer, int why) {
    }

    private static final int MOST_CALLS = 512;
    private static final int[] FAR = {LOW, LOW + 1, LOW + 5, -65537, -65536, -10000, -257, -256, -255, -100, -24, -10, 31, 32,
        33, 64, 99, 100, 101, 127, 128, 129, 199, 200, 201, 255, 256, 257, 1099, 1100, 1101, 32767, 32768, 65535, 65536, 65537,
        65538, 65541, 1 << 24, 1 << 30, HIGH - 1, HIGH};

    public static void main(String[] args) {
        withoutAFamily();
        inOneShortFamily();
        inTheGreatestFamily();
        marksInBounds();
        ledInBounds();
        sizesInBounds();
        deathsByMinus2();
        lawsThatAreSo();
        unlikePeople();
        whichRefusalComesFirst();
        refusedWithoutAFamily();
        refusedInAFamily();
        refusedWhereAllIsFull();
        faultyTextsLeaveTheFamily();
        looksLeaveAllAsItIs();
        calls512();
        end();
    }

    // ---- the families

    private static final String SHORT = head(4, "lot", 0) + plain("a", 1);

    private static String greatest() {
        StringBuilder text = new StringBuilder("family years24law lot fare0");
        for (int p = 0; p < 10; p++) {
            text.append(";person ").append((char) ('a' + p)).append(" keen branch left age").append(p)
                    .append("strong9weighs9frail1");
        }
        for (int i = 0; i < 12; i++) {
            text.append(";plan a 0to0harm1");
        }
        for (int s = 0; s < 8; s++) {
            text.append(";secret ").append((char) ('k' + s)).append(" a");
        }
        return text.toString();
    }

    /** Three people, acts, marks, and a tape that isn't empty. */
    private static ElderTurn middle() {
        ElderTurn x = Texts.of(head(5, "eldest", 3)
                + ";person a cousin branch left age 40 strong 2 weighs 2 frail 10"
                + ";person b twin branch right age 30 strong 1 weighs 1 frail 20"
                + ";person c keen branch left born 1 strong 9 weighs 3 frail 50"
                + ";plan a 0 to 2 harm 7;plan c 0 to 4 harm 3;secret k a;secret m c;hides a k b;buys 2 a c price 4"
                + ";diary 0 a;not 2 a;dies b 4");
        x.seed(5);
        x.mark();
        x.law(3);
        x.seed(6);
        x.buy(1, 1, 2, 9);
        x.mark();
        x.death(0, 3);
        Texts.tape(x, SHORT.getBytes());
        return x;
    }

    /** No room for anything: 8 turns bought by acts, 12 acts, 3 marks, 1,100 bytes. */
    private static ElderTurn full() {
        ElderTurn x = Texts.of(head(4, "round", 3) + plain("a", 3) + plain("b", 2)
                + ";plan a 0 to 2 harm 7;secret k a;hides a k b;buys 2 a b price 4;diary 0 a");
        for (int i = 0; i < 8; i++) {
            x.buy(i % 4, i % 2, 1 - i % 2, i);
        }
        for (int i = 0; i < 3; i++) {
            x.law(1 + i);
            x.seed(i);
            x.mark();
        }
        x.death(0, 1);
        x.death(0, 2);
        x.death(0, 3);
        Texts.tape(x, (SHORT + " ".repeat(1100 - SHORT.length())).getBytes());
        return x;
    }

    // ---- bounds

    private static Set<Integer> probes(int least, int most) {
        Set<Integer> all = new TreeSet<>();
        for (int v : FAR) {
            all.add(v);
        }
        for (int v = -4; v <= 27; v++) {
            all.add(v);
        }
        for (int d = -2; d <= 2; d++) {
            all.add(least + d);
            all.add(most + d);
        }
        return all;
    }

    /** Granted from least to most (by none, if most is below), refused with that answer and trouble beyond. */
    private static void bound(Supplier<ElderTurn> maker, String call, Call ask, int least, int most, long answer, int why) {
        for (int v : probes(least, most)) {
            ElderTurn x = maker.get();
            long got = ask.with(x, v);
            boolean isInside = v >= least && v <= most;
            due(call + " with " + v + ": trouble", x.trouble(), isInside ? 0 : why);
            due(call + " with " + v + ": where", x.where(), -1);
            if (!isInside) {
                due(call + " with " + v, got, answer);
            } else if (answer == 0) {
                due(call + " with " + v, got, 1);
            } else {
                due(call + " with " + v + " is answered", got != answer || call.startsWith("trade"), true);
            }
        }
    }

    private static void people(Supplier<ElderTurn> of, int most) {
        promise = "a person's number: 0 up to the last; else 1";
        bound(of, "person(#, 0)", (x, v) -> x.person(v, 0), 0, most, -1, 1);
        bound(of, "age(#, 0)", (x, v) -> x.age(v, 0), 0, most, -1, 1);
        bound(of, "turnsOf(#, 0)", (x, v) -> x.turnsOf(v, 0), 0, most, -1, 1);
        bound(of, "strength(#, 0)", (x, v) -> x.strength(v, 0), 0, most, -1, 1);
        bound(of, "knows(#, 0)", (x, v) -> x.knows(v, 0), 0, most, -1, 1);
        bound(of, "harmOf(#)", (x, v) -> x.harmOf(v), 0, most, -1, 1);
        bound(of, "purse(#)", (x, v) -> x.purse(v), 0, most, -10000, 1);
        bound(of, "first(#)", (x, v) -> x.first(v), 0, most, -1, 1);
        bound(of, "last(#)", (x, v) -> x.last(v), 0, most, -1, 1);
        bound(of, "power(#)", (x, v) -> x.power(v), 0, most, -1, 1);
        bound(of, "mean(#, 0, 1)", (x, v) -> x.mean(v, 0, 1), 0, most, -1, 1);
        bound(of, "death(#, 0)", (x, v) -> x.death(v, 0) ? 1 : 0, 0, most, 0, 1);
    }

    private static void pairs(Supplier<ElderTurn> of, int most) {
        promise = "two people's numbers: 0 up to the last, unlike; else 1";
        bound(of, "trade(0, #)", (x, v) -> x.trade(0, v), 1, most, -10000, 1);
        bound(of, "trade(#, 0)", (x, v) -> x.trade(v, 0), 1, most, -10000, 1);
        bound(of, "trade(last, #)", (x, v) -> x.trade(most, v), 0, most - 1, -10000, 1);
        bound(of, "buy(0, 0, #, 0)", (x, v) -> x.buy(0, 0, v, 0) ? 1 : 0, 1, most, 0, 1);
        bound(of, "buy(0, #, 0, 0)", (x, v) -> x.buy(0, v, 0, 0) ? 1 : 0, 1, most, 0, 1);
        bound(of, "buy(0, last, #, 0)", (x, v) -> x.buy(0, most, v, 0) ? 1 : 0, 0, most - 1, 0, 1);
    }

    private static void years(Supplier<ElderTurn> of, int most) {
        promise = "a year's number: 0 up to years less 1; else 2";
        bound(of, "elder(#)", (x, v) -> x.elder(v), 0, most, -1, 2);
        bound(of, "empty(#)", (x, v) -> x.empty(v), 0, most, -1, 2);
        bound(of, "there(#)", (x, v) -> x.there(v), 0, most, -1, 2);
        bound(of, "can(#)", (x, v) -> x.can(v), 0, most, -1, 2);
        bound(of, "box(#)", (x, v) -> x.box(v), 0, most, -1, 2);
        bound(of, "harm(#)", (x, v) -> x.harm(v), 0, most, -1, 2);
        bound(of, "age(0, #)", (x, v) -> x.age(0, v), 0, most, -1, 2);
        bound(of, "turnsOf(0, #)", (x, v) -> x.turnsOf(0, v), 0, most, -1, 2);
        bound(of, "strength(0, #)", (x, v) -> x.strength(0, v), 0, most, -1, 2);
        bound(of, "knows(0, #)", (x, v) -> x.knows(0, v), 0, most, -1, 2);
    }

    private static void secrets(Supplier<ElderTurn> of, int most) {
        promise = "a secret's number: 0 up to the last; else 1";
        bound(of, "secret(#)", (x, v) -> x.secret(v), 0, most, -1, 1);
        bound(of, "kept(#, 0)", (x, v) -> x.kept(v, 0), 0, most, -1, 1);
        bound(of, "soonest(#, 0)", (x, v) -> x.soonest(v, 0), 0, most, -1, 1);
        bound(of, "know(#)", (x, v) -> x.know(v), 0, most, -1, 1);
        bound(of, "chain(#, 0)", (x, v) -> x.chain(v, 0), 0, most, -1, 1);
    }

    private static void whats(Supplier<ElderTurn> of) {
        promise = "what is asked for: else 1";
        bound(of, "person(0, #)", (x, v) -> x.person(0, v), 0, 6, -1, 1);
        bound(of, "byLaw(0, #)", (x, v) -> x.byLaw(0, v), 0, 3, -1, 1);
        bound(of, "byLaw(#, 0)", (x, v) -> x.byLaw(v, 0), 0, 4, -1, 1);
        bound(of, "byLaw(#, 3)", (x, v) -> x.byLaw(v, 3), 0, 4, -1, 1);
        bound(of, "bestLaw(#)", (x, v) -> x.bestLaw(v), 0, 3, -1, 1);
        bound(of, "rowAt(1, #)", (x, v) -> x.rowAt(1, v), 0, 0, -1, 1);
        bound(of, "rowAt(2, #)", (x, v) -> x.rowAt(2, v), 0, 1, -1, 1);
    }

    private static void numbers(Supplier<ElderTurn> of, int years) {
        promise = "numbers in bounds: else 2";
        bound(of, "seeds(#)", (x, v) -> x.seeds(v), 1, 200, -1, 2);
        bound(of, "firstSeed(#)", (x, v) -> x.firstSeed(v), 1, 200, -1, 2);
        int most = Math.min(8, years);
        bound(of, "stands(#, false)", (x, v) -> x.stands(v, false), 0, most, -1, 2);
        bound(of, "stands(#, true)", (x, v) -> x.stands(v, true), 0, most, -1, 2);
        bound(of, "mean(0, #, 1)", (x, v) -> x.mean(0, v, 1), 0, 65536, -1, 2);
        bound(of, "mean(0, 0, #)", (x, v) -> x.mean(0, 0, v), 1, 50, -1, 2);
        bound(of, "seed(#)", (x, v) -> x.seed(v) ? 1 : 0, 0, 65536, 0, 2);
    }

    private static void inOneShortFamily() {
        Supplier<ElderTurn> of = () -> Texts.of(SHORT);
        people(of, 0);
        pairs(of, 0);
        years(of, 3);
        secrets(of, -1);
        whats(of);
        numbers(of, 4);
        rowBounds(of);
        promise = "a plan's number, without any";
        bound(of, "plan(#, 0)", (x, v) -> x.plan(v, 0), 0, -1, -1, 1);
        promise = "6 (one person)";
        ElderTurn x = of.get();
        no(x, "bestTrade()", x.bestTrade(), 6);
    }

    private static void inTheGreatestFamily() {
        String text = greatest();
        Supplier<ElderTurn> of = () -> Texts.of(text);
        people(of, 9);
        pairs(of, 9);
        years(of, 23);
        secrets(of, 7);
        whats(of);
        numbers(of, 24);
        promise = "two numbers";
        bound(of, "soonest(0, #)", (x, v) -> x.soonest(0, v), 0, 9, -1, 1);
        bound(of, "chain(7, #)", (x, v) -> x.chain(7, v), 0, 9, -1, 1);
        bound(of, "kept(7, #)", (x, v) -> x.kept(7, v), 0, 23, -1, 2);
        bound(of, "plan(#, 0)", (x, v) -> x.plan(v, 0), 0, 11, -1, 1);
        bound(of, "plan(11, #)", (x, v) -> x.plan(11, v), 0, 3, -1, 1);
        bound(of, "buy(#, 0, 1, 0)", (x, v) -> x.buy(v, 0, 1, 0) ? 1 : 0, 0, 23, 0, 2);
        bound(of, "buy(0, 0, 1, #)", (x, v) -> x.buy(0, 0, 1, v) ? 1 : 0, 0, 99, 0, 2);
    }

    private static void rowBounds(Supplier<ElderTurn> of) {
        promise = "ROWS of n (1 .. 4): else 2; 1 (i)";
        bound(of, "row(#)", (x, v) -> x.row(v), 1, 4, -1, 2);
        bound(of, "rowAt(#, 0)", (x, v) -> x.rowAt(v, 0), 1, 4, -1, 2);
        bound(of, "rowAt(3, #)", (x, v) -> x.rowAt(3, v), 0, 2, -1, 1);
        bound(of, "rowAt(4, #)", (x, v) -> x.rowAt(4, v), 0, 3, -1, 1);
    }

    private static void marksInBounds() {
        promise = "back: 1, but for the number of a MARK";
        for (int marks = 0; marks <= 3; marks++) {
            int many = marks;
            Supplier<ElderTurn> of = () -> {
                ElderTurn x = Texts.of(SHORT);
                for (int i = 0; i < many; i++) {
                    due("mark()", x.mark(), i);
                }
                return x;
            };
            bound(of, "back(#) of " + marks, (x, v) -> x.back(v) ? 1 : 0, 0, marks - 1, 0, 1);
        }
        ElderTurn x = Texts.of(SHORT);
        for (int i = 0; i < 3; i++) {
            yes(x, "mark()", x.mark(), i);
            due("MARKS", x.size(11), i + 1);
        }
        for (int i = 0; i < 3; i++) {
            no(x, "MARKS: up to 3", x.mark(), 3);
            due("MARKS", x.size(11), 3);
        }
    }

    private static void ledInBounds() {
        promise = "NoSuchElementException if there is none such";
        String[] texts = {head(6, "round", 0) + plain("a", 1),
            head(6, "round", 0) + someone("a", "plain", "left", "age 1", 1) + plain("b", 1),
            head(6, "round", 0) + someone("a", "plain", "left", "age 1", 1) + someone("b", "plain", "left", "age 1", 1),
            head(6, "round", 0) + someone("a", "plain", "left", "age 1", 1) + someone("b", "plain", "left", "age 1", 1)
                    + someone("c", "plain", "left", "age 1", 1)};
        for (int deaths = 0; deaths < texts.length; deaths++) {
            ElderTurn x = Texts.of(texts[deaths]);
            yes(x, "deaths()", x.deaths(), deaths);
            x.elder(-1);
            for (int v : probes(0, deaths - 1)) {
                boolean isInside = v >= 0 && v < deaths;
                due("led(" + v + ") of " + deaths, led(x, v), isInside ? v : THROWN);
                due("led is no call that may be refused", x.trouble(), 2);
            }
        }
        ElderTurn none = new ElderTurn();
        for (int v : probes(0, 0)) {
            due("led(" + v + ") without a FAMILY", led(none, v), THROWN);
        }
        due("trouble", none.trouble(), 0);
        ElderTurn lives = Texts.of(texts[1]);
        due("led(0)", led(lives, 0), 0);
        lives.death(0, 0);
        due("who dies ahead of his turn doesn't in it", led(lives, 0), THROWN);
        lives.undo();
        due("led(0)", led(lives, 0), 0);
        Texts.family(lives, texts[0]);
        due("nobody of the new FAMILY", led(lives, 0), THROWN);
    }

    private static void sizesInBounds() {
        promise = "size: NONE for others; 0 for what there isn't";
        for (ElderTurn x : new ElderTurn[] {new ElderTurn(), Texts.of(SHORT), middle(), full()}) {
            x.back(-1);
            for (int v : probes(0, 12)) {
                due("size(" + v + ")", x.size(v) != -1, v >= 0 && v <= 12);
                due("size is no call that may be refused", x.trouble(), 1);
            }
        }
        int[] sizes = {4, 3, 0, 1, 0, 0, 0, 0, 0, 0, 0, 0, 0};
        for (int what = 0; what <= 12; what++) {
            due("a new one: size(" + what + ")", new ElderTurn().size(what), 0);
            due("a short one: size(" + what + ")", Texts.of(SHORT).size(what), sizes[what]);
        }
        int[] most = {4, 3, 3, 2, 1, 9, 1, 1, 1, 2, 12, 3, 1100};
        for (int what = 0; what <= 12; what++) {
            due("a full one: size(" + what + ")", full().size(what), most[what]);
        }
    }

    private static void deathsByMinus2() {
        promise = "DEATH (year -2: he isn't to die): 2 (year); 5 (it is so)";
        for (int year : new int[] {0, 1, 2, 3}) {
            for (int v : probes(0, 3)) {
                ElderTurn x = Texts.of(SHORT + ";dies a " + year);
                boolean isYear = v == -2 || v >= 0 && v <= 3;
                boolean got = x.death(0, v);
                due("death(0, " + v + ")", got, isYear && v != year);
                due("trouble", x.trouble(), !isYear ? 2 : v == year ? 5 : 0);
                due("his year", x.person(0, 6), got ? v : year);
                due("acts", x.size(10), got ? 1 : 0);
            }
        }
        for (int v : probes(0, 3)) {
            ElderTurn x = Texts.of(SHORT);
            boolean isYear = v >= 0 && v <= 3;
            due("death(0, " + v + ")", x.death(0, v), isYear);
            due("trouble", x.trouble(), isYear ? 0 : v == -2 ? 5 : 2);
        }
    }

    private static void lawsThatAreSo() {
        promise = "LAW: 1 (none such); 5 (it is that)";
        String[] laws = {"round", "eldest", "youngest", "lot", "vote"};
        for (int law = 0; law < 5; law++) {
            for (int v : probes(0, 4)) {
                ElderTurn x = Texts.of(head(4, laws[law], 0) + plain("a", 1));
                boolean isLaw = v >= 0 && v <= 4;
                due("law(" + v + ")", x.law(v), isLaw && v != law);
                due("trouble", x.trouble(), !isLaw ? 1 : v == law ? 5 : 0);
                due("the LAW NOW", x.size(1), isLaw ? v : law);
                due("acts", x.size(10), isLaw && v != law ? 1 : 0);
            }
        }
    }

    private static void unlikePeople() {
        promise = "1 (people, unlike)";
        String text = greatest();
        for (int p = 0; p < 10; p++) {
            ElderTurn x = Texts.of(text);
            no(x, "trade", x.trade(p, p), -10000, 1);
            no(x, "buy", x.buy(0, p, p, 0), 1);
            due("nothing is bought", x.size(5), 0);
        }
    }

    private static void whichRefusalComesFirst() {
        promise = "the refusal that is told first";
        ElderTurn x = Texts.of(head(4, "lot", 0) + plain("a", 1) + plain("b", 1));
        no(x, "age: 1; 2", x.age(2, 4), 1);
        no(x, "turnsOf: 1; 2", x.turnsOf(-1, -1), 1);
        no(x, "strength: 1; 2", x.strength(LOW, HIGH), 1);
        no(x, "knows: 1; 2", x.knows(2, 4), 1);
        no(x, "kept: 1; 2", x.kept(0, 4), 1);
        no(x, "rowAt: 2, then 1 (i)", x.rowAt(5, 9), 2);
        no(x, "rowAt: 2, then 1 (i)", x.rowAt(0, 0), 2);
        no(x, "mean: 1; 2", x.mean(2, -1, 0), 1);
        no(x, "buy: 1; 2", x.buy(4, 0, 0, 100), 1);
        no(x, "buy: 1; 2", x.buy(4, 0, 2, 100), 1);
        no(x, "death: 1; 2", x.death(2, 4), 1);
        for (int i = 0; i < 8; i++) {
            x.buy(0, 0, 1, 0);
        }
        no(x, "buy: 1; 3", x.buy(0, 1, 1, 0), 1);
        no(x, "buy: 2; 3", x.buy(4, 0, 1, 0), 2);
        no(x, "buy: 2; 3", x.buy(0, 0, 1, -1), 2);
        no(x, "buy: 3", x.buy(0, 0, 1, 0), 3);
    }

    // ---- without a family

    private static void withoutAFamily() {
        promise = "1 (no FAMILY)";
        Supplier<ElderTurn> of = ElderTurn::new;
        for (Supplier<ElderTurn> maker : List.of(of, CallEdgesTest::afterAFault)) {
            people(maker, -1);
            secrets(maker, -1);
            for (int v : probes(0, 0)) {
                ElderTurn x = maker.get();
                for (Refusal r : allCalls(v)) {
                    no(x, r.call + " with " + v + " and no FAMILY", r.ask.of(x), r.answer, r.why);
                }
            }
        }
    }

    private static ElderTurn afterAFault() {
        ElderTurn x = new ElderTurn();
        Texts.family(x, SHORT + ";odd");
        return x;
    }

    private static List<Refusal> allCalls(int v) {
        List<Refusal> all = new ArrayList<>();
        all.add(new Refusal("person", x -> x.person(0, v), -1, 1));
        all.add(new Refusal("plan", x -> x.plan(v, 0), -1, 1));
        all.add(new Refusal("plan", x -> x.plan(0, v), -1, 1));
        all.add(new Refusal("elder", x -> x.elder(v), -1, 1));
        all.add(new Refusal("empty", x -> x.empty(v), -1, 1));
        all.add(new Refusal("there", x -> x.there(v), -1, 1));
        all.add(new Refusal("can", x -> x.can(v), -1, 1));
        all.add(new Refusal("age", x -> x.age(0, v), -1, 1));
        all.add(new Refusal("turnsOf", x -> x.turnsOf(0, v), -1, 1));
        all.add(new Refusal("strength", x -> x.strength(0, v), -1, 1));
        all.add(new Refusal("knows", x -> x.knows(0, v), -1, 1));
        all.add(new Refusal("box", x -> x.box(v), -1, 1));
        all.add(new Refusal("kept", x -> x.kept(0, v), -1, 1));
        all.add(new Refusal("harm", x -> x.harm(v), -1, 1));
        all.add(new Refusal("harmAll", x -> x.harmAll(), -1, 1));
        all.add(new Refusal("fair", x -> x.fair(), -1, 1));
        all.add(new Refusal("deaths", x -> x.deaths(), -1, 1));
        all.add(new Refusal("soonest", x -> x.soonest(0, v), -1, 1));
        all.add(new Refusal("byLaw", x -> x.byLaw(v, 0), -1, 1));
        all.add(new Refusal("byLaw", x -> x.byLaw(0, v), -1, 1));
        all.add(new Refusal("bestLaw", x -> x.bestLaw(v), -1, 1));
        all.add(new Refusal("row", x -> x.row(v), -1, 1));
        all.add(new Refusal("rowAt", x -> x.rowAt(v, 0), -1, 1));
        all.add(new Refusal("rowAt", x -> x.rowAt(1, v), -1, 1));
        all.add(new Refusal("chain", x -> x.chain(0, v), -1, 1));
        all.add(new Refusal("trade", x -> x.trade(v, 1), -10000, 1));
        all.add(new Refusal("bestTrade", x -> x.bestTrade(), -1, 1));
        all.add(new Refusal("fits", x -> x.fits(), -1, 1));
        all.add(new Refusal("seeds", x -> x.seeds(v), -1, 1));
        all.add(new Refusal("firstSeed", x -> x.firstSeed(v), -1, 1));
        all.add(new Refusal("stands", x -> x.stands(v, false), -1, 1));
        all.add(new Refusal("stands", x -> x.stands(v, true), -1, 1));
        all.add(new Refusal("mean", x -> x.mean(0, v, 1), -1, 1));
        all.add(new Refusal("mean", x -> x.mean(0, 0, v), -1, 1));
        all.add(new Refusal("buy", x -> x.buy(v, 0, 1, 0) ? 1 : 0, 0, 1));
        all.add(new Refusal("buy", x -> x.buy(0, v, 1, 0) ? 1 : 0, 0, 1));
        all.add(new Refusal("buy", x -> x.buy(0, 0, v, 0) ? 1 : 0, 0, 1));
        all.add(new Refusal("buy", x -> x.buy(0, 0, 1, v) ? 1 : 0, 0, 1));
        all.add(new Refusal("death", x -> x.death(0, v) ? 1 : 0, 0, 1));
        all.add(new Refusal("law", x -> x.law(v) ? 1 : 0, 0, 1));
        all.add(new Refusal("seed", x -> x.seed(v) ? 1 : 0, 0, 1));
        all.add(new Refusal("undo", x -> x.undo() ? 1 : 0, 0, 6));
        all.add(new Refusal("mark", x -> x.mark(), -1, 1));
        all.add(new Refusal("back", x -> x.back(v) ? 1 : 0, 0, 1));
        return all;
    }

    // ---- what refused calls leave

    /** Behind each refused call all is as in an object that wasn't asked for it. */
    private static void leave(Supplier<ElderTurn> maker, List<Refusal> refusals) {
        List<String> want = Answers.of(maker.get());
        due("an object is used for at most 512 calls", want.size() < MOST_CALLS - 80, true);
        for (Refusal r : refusals) {
            ElderTurn x = maker.get();
            no(x, r.call, r.ask.of(x), r.answer, r.why);
            due(r.call + ": where", x.where(), -1);
            same(r.call, Answers.of(x), want);
        }
    }

    private static void same(String call, List<String> got, List<String> want) {
        due(call + ": as many answers as ahead of it", got.size(), want.size());
        for (int i = 0; i < want.size() && i < got.size(); i++) {
            if (!got.get(i).equals(want.get(i))) {
                due("behind " + call + " " + got.get(i) + ", ahead of it " + want.get(i), false, true);
            }
        }
    }

    private static void refusedWithoutAFamily() {
        promise = "refused without a FAMILY: all stays";
        Supplier<ElderTurn> of = () -> {
            ElderTurn x = new ElderTurn();
            Texts.tape(x, SHORT.getBytes());
            return x;
        };
        List<Refusal> all = new ArrayList<>(allCalls(1));
        all.add(new Refusal("family(-1)", x -> x.family(-1), -1, 2));
        all.add(new Refusal("family(101)", x -> x.family(101), -1, 2));
        leave(of, all);
    }

    private static void add(List<Refusal> all, int why, String call, Ask ask) {
        all.add(new Refusal(call, ask, -1, why));
    }

    private static void deny(List<Refusal> all, int why, String call, Ask ask) {
        all.add(new Refusal(call, ask, 0, why));
    }

    private static List<Refusal> looksRefused() {
        List<Refusal> all = new ArrayList<>();
        add(all, 2, "family(-1)", x -> x.family(-1));
        add(all, 2, "family(1101)", x -> x.family(1101));
        add(all, 1, "person(10, 0)", x -> x.person(10, 0));
        add(all, 1, "plan(12, 0)", x -> x.plan(12, 0));
        add(all, 1, "secret(8)", x -> x.secret(8));
        add(all, 2, "elder(24)", x -> x.elder(24));
        add(all, 2, "empty(-1)", x -> x.empty(-1));
        add(all, 2, "there(24)", x -> x.there(24));
        add(all, 2, "can(24)", x -> x.can(24));
        add(all, 1, "age(-1, 0)", x -> x.age(-1, 0));
        add(all, 2, "turnsOf(0, 24)", x -> x.turnsOf(0, 24));
        add(all, 2, "strength(0, 24)", x -> x.strength(0, 24));
        add(all, 2, "knows(0, 24)", x -> x.knows(0, 24));
        add(all, 2, "box(24)", x -> x.box(24));
        add(all, 2, "kept(0, 24)", x -> x.kept(0, 24));
        add(all, 2, "harm(24)", x -> x.harm(24));
        add(all, 1, "harmOf(10)", x -> x.harmOf(10));
        all.add(new Refusal("purse(10)", x -> x.purse(10), -10000, 1));
        add(all, 1, "first(10)", x -> x.first(10));
        add(all, 1, "last(10)", x -> x.last(10));
        add(all, 1, "soonest(0, 10)", x -> x.soonest(0, 10));
        add(all, 1, "know(8)", x -> x.know(8));
        add(all, 1, "byLaw(5, 0)", x -> x.byLaw(5, 0));
        add(all, 1, "bestLaw(4)", x -> x.bestLaw(4));
        add(all, 2, "row(5)", x -> x.row(5));
        add(all, 1, "rowAt(2, 2)", x -> x.rowAt(2, 2));
        add(all, 1, "chain(0, 10)", x -> x.chain(0, 10));
        all.add(new Refusal("trade(0, 0)", x -> x.trade(0, 0), -10000, 1));
        add(all, 2, "seeds(201)", x -> x.seeds(201));
        add(all, 2, "firstSeed(0)", x -> x.firstSeed(0));
        add(all, 1, "power(10)", x -> x.power(10));
        add(all, 2, "stands(9, true)", x -> x.stands(9, true));
        add(all, 2, "mean(0, 65537, 1)", x -> x.mean(0, 65537, 1));
        add(all, 2, "mean(0, 0, 51)", x -> x.mean(0, 0, 51));
        return all;
    }

    private static List<Refusal> actsRefused() {
        List<Refusal> all = new ArrayList<>();
        deny(all, 1, "buy(0, 0, 0, 0)", x -> x.buy(0, 0, 0, 0) ? 1 : 0);
        deny(all, 1, "buy(0, 10, 0, 0)", x -> x.buy(0, 10, 0, 0) ? 1 : 0);
        deny(all, 1, "buy(0, 0, -1, 0)", x -> x.buy(0, 0, -1, 0) ? 1 : 0);
        deny(all, 2, "buy(24, 0, 1, 0)", x -> x.buy(24, 0, 1, 0) ? 1 : 0);
        deny(all, 2, "buy(-1, 0, 1, 0)", x -> x.buy(-1, 0, 1, 0) ? 1 : 0);
        deny(all, 2, "buy(0, 0, 1, 100)", x -> x.buy(0, 0, 1, 100) ? 1 : 0);
        deny(all, 2, "buy(0, 0, 1, -1)", x -> x.buy(0, 0, 1, -1) ? 1 : 0);
        deny(all, 1, "death(10, 0)", x -> x.death(10, 0) ? 1 : 0);
        deny(all, 2, "death(0, 24)", x -> x.death(0, 24) ? 1 : 0);
        deny(all, 2, "death(0, -1)", x -> x.death(0, -1) ? 1 : 0);
        deny(all, 5, "death(0, 3), which is so", x -> x.death(0, 3) ? 1 : 0);
        deny(all, 1, "law(5)", x -> x.law(5) ? 1 : 0);
        deny(all, 1, "law(-1)", x -> x.law(-1) ? 1 : 0);
        deny(all, 5, "law(3), which is so", x -> x.law(3) ? 1 : 0);
        deny(all, 2, "seed(65537)", x -> x.seed(65537) ? 1 : 0);
        deny(all, 2, "seed(-1)", x -> x.seed(-1) ? 1 : 0);
        deny(all, 1, "back(3)", x -> x.back(3) ? 1 : 0);
        deny(all, 1, "back(-1)", x -> x.back(-1) ? 1 : 0);
        return all;
    }

    private static void refusedInAFamily() {
        promise = "refused: all stays";
        leave(CallEdgesTest::middle, looksRefused());
        leave(CallEdgesTest::middle, actsRefused());
        List<Refusal> none = new ArrayList<>();
        deny(none, 6, "undo(), nothing to undo", x -> x.undo() ? 1 : 0);
        add(none, 6, "bestTrade() of one", x -> x.bestTrade());
        Supplier<ElderTurn> alone = () -> {
            ElderTurn x = Texts.of(SHORT);
            x.seed(7);
            x.mark();
            x.seed(9);
            return x;
        };
        leave(alone, none);
    }

    private static void refusedWhereAllIsFull() {
        promise = "3 no room: all stays";
        List<Refusal> all = new ArrayList<>(actsRefused());
        deny(all, 3, "a ninth turn bought by ACTS", x -> x.buy(0, 0, 1, 0) ? 1 : 0);
        add(all, 3, "a fourth MARK", x -> x.mark());
        leave(CallEdgesTest::full, all);
        List<String> want = Answers.of(full());
        ElderTurn x = full();
        no(x, "ahead of it", x.row(0), 2);
        due("a 1,101st byte", x.feed(1, 2, 3, 4, 5), -1);
        due("no call that may be refused", x.trouble(), 2);
        same("feed", Answers.of(x), want);
    }

    private static void faultyTextsLeaveTheFamily() {
        promise = "4 (the FAMILY stays)";
        String known = SHORT + plain("b", 1);
        String[] texts = {"", "odd", known + ";dies zz 1", known + ";secret a", known + ";dies a 4",
            known + ";not 0 a".repeat(9), "person", SHORT.substring(0, 30), known + ";plan a 0 to 1 harm 1;hides a s b"};
        int[] faults = {1, 1, 2, 3, 4, 5, 6, 1, 2};
        for (int i = 0; i < texts.length; i++) {
            ElderTurn x = middle();
            // The tape is put away ahead of it, so that both have an empty one.
            x.family(0);
            no(x, texts[i], Texts.family(x, texts[i]), 4);
            due("fault", x.fault(), faults[i]);
            due("THE TAPE is empty then", x.size(12), 0);
            ElderTurn y = middle();
            y.family(0);
            List<String> got = Answers.of(x);
            List<String> want = Answers.of(y);
            same("family", got.subList(1, got.size()), want.subList(1, want.size()));
        }
    }

    // ---- what granted calls leave

    private static void looksLeaveAllAsItIs() {
        promise = "calls that only look leave all as it is";
        List<Ask> all = List.of(x -> x.person(0, 6), x -> x.elder(3), x -> x.kept(0, 4), x -> x.harmAll(), x -> x.purse(1),
                x -> x.soonest(0, 1), x -> x.byLaw(0, 2), x -> x.bestLaw(3), x -> x.row(3), x -> x.rowAt(4, 3),
                x -> x.chain(1, 0), x -> x.trade(1, 2), x -> x.bestTrade(), x -> x.fits(), x -> x.seeds(9),
                x -> x.firstSeed(9), x -> x.power(2), x -> x.stands(3, true), x -> x.mean(1, 65530, 12), x -> led(x, 0),
                x -> x.size(4), x -> x.trouble(), x -> x.fault(), x -> x.where());
        List<String> want = Answers.of(middle());
        for (int i = 0; i < all.size(); i++) {
            ElderTurn x = middle();
            long first = all.get(i).of(x);
            due("look " + i + ": trouble", x.trouble(), 0);
            due("look " + i + " again", all.get(i).of(x), first);
            same("look " + i, Answers.of(x), want);
        }
    }

    private static void calls512() {
        promise = "An object is used for at most 512 calls: the last of them";
        ElderTurn x = new ElderTurn();
        int calls = 0;
        int[] n = new int[5];
        for (int from = 0; from < SHORT.length(); from += 20) {
            n = Texts.numbers(SHORT.getBytes(), from);
            x.feed(n[0], n[1], n[2], n[3], n[4]);
            calls++;
        }
        x.family(SHORT.length());
        calls++;
        for (; calls < 508; calls += 2) {
            x.death(0, calls % 4 == 0 ? 3 : 2);
            x.seed(calls);
        }
        due("call 509", x.undo(), true);
        due("call 510", x.trouble(), 0);
        due("call 511", x.size(9), 504);
        due("call 512", x.size(10), 11);
    }
}
