import java.util.ArrayList;
import java.util.List;

/** Nothing of an earlier family, whole or faulty, and nothing of an earlier question is left in later answers. */
final class LeftoverTest extends Checks {
    private static final String RICH = head(24, "vote", 9)
            + ";person a cousin branch left age 1 strong 9 weighs 9 frail 10"
            + ";person b keen branch right age 2 strong 8 weighs 5 frail 20"
            + ";person c twin branch left age 3 strong 7 weighs 4 frail 30"
            + ";person d plain branch right age 4 strong 6 weighs 3 frail 40"
            + ";plan a 0 to 23 harm 1;plan b 0 to 23 harm 2;plan c 0 to 23 harm 3;plan d 1 to 22 harm 4;plan a 2 to 2 harm 5"
            + ";secret s a;secret t b;secret u c;hides a s b;hides b t a;hides c u d;hides a u d"
            + ";buys 0 a b price 1;buys 1 b a price 2;buys 2 c d price 3;dies d 20;diary 0 b;not 1 b;diary 3 c";

    private static final String[] WHOLE = {
        RICH,
        head(4, "round", 0) + plain("a", 1),
        head(4, "vote", 3) + ";person x plain branch right age 9 strong 2 weighs 3 frail 1"
                + ";person y plain branch left age 8 strong 1 weighs 2 frail 2;person z plain branch left age 7 strong 9 weighs 0"
                + " frail 3;secret k y;not 3 z",
        head(5, "lot", 0) + someone("p", "soldier", "right", "born 1", 3) + someone("q", "twin", "left", "age 0", 9)
                + ";secret i p;secret j q;hides q j p;plan q 4 to 4 harm 99;dies p 4",
        head(7, "youngest", 50) + someone("m", "keen", "right", "age 90", 1) + someone("n", "cousin", "right", "age 80", 1)
                + ";buys 0 n m price 50;secret f n;hides n f m"};

    private static final String[] FAULTY = {
        RICH + ";odd",
        RICH + ";hides b s a;hides d s a;dies a 3;dies b 3;dies c 3;person a",
        head(24, "youngest", 99) + someone("a", "soldier", "right", "age 1", 9) + ";dies a 0;dies a 0"};

    public static void main(String[] args) {
        familiesBehindOneAnother();
        knowledgeBehindTheLastYear();
        sidesChange();
        questionsLeaveNothing();
        end();
    }

    private static List<String> answers(ElderTurn x) {
        List<String> all = new ArrayList<>(Answers.ofYears(x));
        for (int what = 0; what <= 12; what++) {
            all.add("size(" + what + ") = " + x.size(what));
        }
        for (int i = 0; i < 12; i++) {
            all.add("plan(" + i + ", 3) = " + x.plan(i, 3));
        }
        return all;
    }

    private static void same(String what, List<String> got, List<String> want) {
        due(what + ": as many answers", got.size(), want.size());
        for (int i = 0; i < want.size() && i < got.size(); i++) {
            if (!got.get(i).equals(want.get(i))) {
                due(what + ": " + got.get(i) + ", due is " + want.get(i), false, true);
            }
        }
    }

    private static void familiesBehindOneAnother() {
        promise = "The first n bytes of THE TAPE are the FAMILY from now on";
        for (int last = 0; last < WHOLE.length; last++) {
            List<String> want = answers(Texts.of(WHOLE[last]));
            for (int i = 0; i < WHOLE.length; i++) {
                for (int j = 0; j < WHOLE.length + FAULTY.length; j++) {
                    ElderTurn x = Texts.of(WHOLE[i]);
                    x.law(2);
                    x.seed(7);
                    x.mark();
                    x.buy(0, 0, 1, 9);
                    x.death(0, 0);
                    x.row(2);
                    x.chain(0, 0);
                    boolean isWhole = j < WHOLE.length;
                    String second = isWhole ? WHOLE[j] : FAULTY[j - WHOLE.length];
                    due("family " + j, Texts.family(x, second) > 0, isWhole);
                    x.row(1);
                    x.trade(0, 1);
                    due("family " + last, Texts.family(x, WHOLE[last]) > 0, true);
                    same("behind families " + i + " and " + j, answers(x), want);
                }
            }
        }
    }

    private static void knowledgeBehindTheLastYear() {
        promise = "The first year behind which he KNOWS a secret (0 ..); -2";
        // b knows it in year 4, which the next family doesn't have; in that one it is kept from him.
        ElderTurn x = Texts.of(head(24, "round", 0) + plain("a", 1) + plain("b", 1) + plain("c", 1) + ";secret s a"
                + ";buys 1 b c price 0");
        yes(x, "soonest", x.soonest(0, 1), 3);
        yes(x, "knows", x.knows(1, 4), 1);
        yes(x, "family", Texts.family(x, head(4, "round", 0) + plain("a", 1) + plain("b", 1) + ";secret s a;hides a s b"), 2);
        yes(x, "soonest", x.soonest(0, 1), -2);
        yes(x, "know", x.know(0), 1);
        // Of the greatest number of years none is looked for behind the last.
        ElderTurn y = Texts.of(head(24, "round", 0) + plain("a", 1) + plain("b", 1) + plain("c", 1) + ";secret s a"
                + ";hides a s b;hides a s c");
        yes(y, "soonest", y.soonest(0, 1), -2);
        yes(y, "soonest", y.soonest(0, 2), -2);
        ElderTurn late = Texts.of(head(24, "eldest", 0) + plain("a", 1) + someone("b", "plain", "left", "born 23", 9)
                + plain("c", 1) + plain("d", 1) + ";secret s a");
        yes(late, "in the very last year", late.soonest(0, 1), 23);
        yes(late, "first", late.first(1), 23);
        yes(late, "last", late.last(1), 23);
    }

    private static void sidesChange() {
        promise = "vote: by the branches of this FAMILY";
        String left = ";person a plain branch left age 1 strong 9 weighs 1 frail 0";
        String right = ";person a plain branch right age 1 strong 9 weighs 1 frail 0";
        String b = ";person b plain branch left age 1 strong 9 weighs 2 frail 0";
        ElderTurn x = Texts.of(head(4, "vote", 0) + left + b);
        elders(x, 0, 1, 0, 1);
        yes(x, "family", Texts.family(x, head(4, "vote", 0) + right + b), 2);
        elders(x, 0, 0, 0, 0);
        yes(x, "family", Texts.family(x, head(4, "vote", 0) + left + b), 2);
        elders(x, 0, 1, 0, 1);
        yes(x, "family", Texts.family(x, head(4, "vote", 0) + right + b.replace("left", "right")), 2);
        elders(x, 0, 1, 0, 1);
        yes(x, "family", Texts.family(x, head(4, "vote", 0) + left + b.replace("left", "right")), 2);
        elders(x, 0, 0, 0, 0);
    }

    private static void questionsLeaveNothing() {
        promise = "what is asked changes no other answer";
        String text = head(6, "round", 0) + plain("a", 1) + plain("b", 2) + plain("c", 3)
                + ";plan a 0 to 0 harm 1;plan b 1 to 1 harm 2;plan c 2 to 2 harm 4;plan a 3 to 3 harm 8;diary 0 a;secret s a";
        List<String> want = found(Texts.of(text));
        for (int i = 0; i < 8; i++) {
            ElderTurn x = Texts.of(text);
            switch (i) {
                case 0 -> x.trade(0, 1);
                case 1 -> x.trade(0, 2);
                case 2 -> x.trade(1, 2);
                case 3 -> x.bestTrade();
                case 4 -> x.byLaw(3, 0);
                case 5 -> x.mean(0, 65536, 50);
                case 6 -> x.seeds(200);
                default -> x.row(4);
            }
            same("question " + i, found(x), want);
        }
    }

    private static List<String> found(ElderTurn x) {
        List<String> all = new ArrayList<>();
        for (int law = 0; law < 5; law++) {
            for (int what = 0; what < 4; what++) {
                all.add("byLaw(" + law + ", " + what + ") = " + x.byLaw(law, what));
            }
        }
        all.add("fits() = " + x.fits());
        all.add("seeds(20) = " + x.seeds(20) + ", firstSeed(20) = " + x.firstSeed(20));
        for (int p = 0; p < 3; p++) {
            all.add("mean(" + p + ", 0, 9) = " + x.mean(p, 0, 9) + ", chain(0, " + p + ") = " + x.chain(0, p));
        }
        for (int n = 1; n <= 4; n++) {
            all.add("row(" + n + ") = " + x.row(n) + ", its last = " + x.rowAt(n, n - 1));
        }
        all.add("harmAll() = " + x.harmAll());
        all.add("trades: " + x.trade(0, 1) + ", " + x.trade(0, 2) + ", " + x.trade(1, 2));
        return all;
    }
}
