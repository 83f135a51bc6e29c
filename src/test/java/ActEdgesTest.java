import java.util.ArrayList;
import java.util.List;

/** Acts, undoing, marks, the seed: promises 42 to 48 and what Terms III says of them. */
final class ActEdgesTest extends Checks {
    /** Something that changes an object, and answers whether it did. */
    private interface Act {
        boolean of(ElderTurn x);
    }

    private static final String PEOPLE = ";person a cousin branch left age 40 strong 3 weighs 2 frail 10"
            + ";person b twin branch right age 30 strong 9 weighs 1 frail 20"
            + ";person c keen branch left age 50 strong 2 weighs 3 frail 50"
            + ";person d soldier branch right age 25 strong 4 weighs 2 frail 5"
            + ";plan a 0 to 5 harm 7;plan b 2 to 7 harm 3;plan c 0 to 0 harm 9;plan d 3 to 3 harm 20"
            + ";secret k a;secret m c;hides a k b;diary 0 c;not 2 a";

    public static void main(String[] args) {
        actsAreAsToldFromYear0On();
        everyNumberOfABuy();
        eightByActs();
        roomForBuysComesAndGoes();
        deathsToldAndOthers();
        everyLawBehindEveryLaw();
        seedIsNoAct();
        undoTakesBackEachSort();
        undoTakesBackTheSeed();
        twelveAreKept();
        undoOfManyInTheirOrder();
        refusedActsAreNotKept();
        marksUpTo3();
        markIsNoAct();
        backIsAsByTheMark();
        backForgetsWhatCanBeUndone();
        backOverAndOver();
        backToOtherBuys();
        undoLeavesMarks();
        familyForgetsAll();
        end();
    }

    private static ElderTurn fresh() {
        return Texts.of(head(8, "eldest", 5) + PEOPLE);
    }

    private static void same(String what, List<String> got, List<String> want) {
        due(what + ": as many answers", got.size(), want.size());
        for (int i = 0; i < want.size() && i < got.size(); i++) {
            if (!got.get(i).equals(want.get(i))) {
                due(what + ": " + got.get(i) + ", due is " + want.get(i), false, true);
            }
        }
    }

    /** Less than all, so that an object can be looked at often within its 512 calls. */
    private static List<String> look(ElderTurn x) {
        List<String> lines = new ArrayList<>();
        for (int year = 0; year < 8; year++) {
            lines.add("elder(" + year + ") = " + x.elder(year) + ", there(" + year + ") = " + x.there(year));
        }
        lines.add("row(2) = " + x.row(2) + ", rowAt(2, 1) = " + x.rowAt(2, 1) + ", chain(0, 2) = " + (x.size(6) == 0 ? 0 : x.chain(0, 2)));
        lines.add("purse(0) = " + x.purse(0) + ", size(1) = " + x.size(1) + ", size(5) = " + x.size(5));
        return lines;
    }

    private static void acts(ElderTurn x, int want) {
        due("acts", x.size(10), want);
    }

    // ---- what acts do

    private static void told(String text, String what, Act... acts) {
        ElderTurn x = fresh();
        // What was asked ahead of the acts is run anew, too.
        look(x);
        for (Act act : acts) {
            yes(x, what, act.of(x));
        }
        same(what, Answers.ofYears(x), Answers.ofYears(Texts.of(text)));
    }

    private static void actsAreAsToldFromYear0On() {
        promise = "The LAW NOW, SEED, and what is bought or dies by ACTS count from year 0 on: all years are run anew";
        String eldest = head(8, "eldest", 5) + PEOPLE;
        String[] laws = {"round", "eldest", "youngest", "lot", "vote"};
        for (int law = 0; law < 5; law++) {
            int number = law;
            if (law != 1) {
                told(head(8, laws[law], 5) + PEOPLE, "law " + laws[law], x -> x.law(number));
            }
            told(head(8, laws[law], 5) + PEOPLE + ";dies a 3;buys 1 a b price 9",
                    "death and buy, then law " + laws[law], x -> x.death(0, 3), x -> x.buy(1, 0, 1, 9),
                    x -> x.law(number == 4 ? 0 : 4), x -> number == 4 ? x.law(4) : number == 0 ? x.death(0, -2)
                    && x.law(0) && x.death(0, 3) : x.law(number));
        }
        for (int year = 0; year < 8; year++) {
            int when = year;
            for (int p = 0; p < 4; p++) {
                int who = p;
                told(eldest + ";dies " + (char) ('a' + p) + " " + year, "death(" + p + ", " + year + ")",
                        x -> x.death(who, when));
            }
            for (int p = 0; p < 4; p++) {
                int who = p;
                int other = (p + 1 + year % 3) % 4;
                told(eldest + ";buys " + year + " " + (char) ('a' + p) + " " + (char) ('a' + other) + " price 12",
                        "buy(" + year + ", " + p + ", " + other + ", 12)", x -> x.buy(when, who, other, 12));
            }
        }
        told(eldest + ";dies a 0;dies b 0;dies c 0;dies d 0", "all die", x -> x.death(0, 0), x -> x.death(1, 0),
                x -> x.death(2, 0), x -> x.death(3, 0));
    }

    private static void everyNumberOfABuy() {
        promise = "BUY (one more)";
        for (int year = 0; year < 4; year++) {
            for (int p = 0; p < 3; p++) {
                for (int q = 0; q < 3; q++) {
                    if (p == q) {
                        continue;
                    }
                    int price = 97 + (p + q) % 3;
                    ElderTurn x = Texts.of(head(4, "round", 0) + THREE);
                    yes(x, "buy", x.buy(year, p, q, price));
                    boolean sold = year % 3 == p;
                    yes(x, year + ": " + p + " to " + q + ", elder", x.elder(year), sold ? q : year % 3);
                    yes(x, "purse of " + p, x.purse(p), sold ? -price : 0);
                    yes(x, "purse of " + q, x.purse(q), sold ? price : 0);
                    due("bought", x.size(5), 1);
                    acts(x, 1);
                }
            }
        }
        ElderTurn x = Texts.of(head(4, "round", 0) + THREE);
        yes(x, "the same", x.buy(0, 0, 1, 5));
        yes(x, "twice", x.buy(0, 0, 1, 5));
        due("bought", x.size(5), 2);
        yes(x, "paid once, as b is it then", x.purse(1), 5);
    }

    private static void eightByActs() {
        promise = "3 (8 by ACTS are there)";
        for (int told = 0; told <= 8; told++) {
            ElderTurn x = Texts.of(head(4, "round", 0) + THREE + ";buys 3 c b price 1".repeat(told));
            due("told", x.size(5), told);
            for (int i = 0; i < 8; i++) {
                yes(x, "buy " + i, x.buy(0, i % 2, 1 - i % 2, 10 + i));
                due("bought", x.size(5), told + i + 1);
                yes(x, "elder(0)", x.elder(0), 1 - i % 2);
            }
            no(x, "a ninth", x.buy(0, 0, 1, 1), 3);
            no(x, "a ninth of another year", x.buy(3, 0, 1, 1), 3);
            due("bought", x.size(5), told + 8);
            acts(x, 8);
            yes(x, "paid", x.purse(0), -10 + 11 - 12 + 13 - 14 + 15 - 16 + 17);
            yes(x, "got", x.purse(1), 10 - 11 + 12 - 13 + 14 - 15 + 16 - 17);
        }
    }

    private static void roomForBuysComesAndGoes() {
        promise = "3 (8 by ACTS are there): of those that count now";
        ElderTurn x = Texts.of(head(4, "round", 0) + THREE);
        yes(x, "mark()", x.mark(), 0);
        for (int i = 0; i < 7; i++) {
            yes(x, "buy", x.buy(1, 0, 1, i));
        }
        yes(x, "mark()", x.mark(), 1);
        yes(x, "buy", x.buy(2, 2, 1, 7));
        no(x, "full", x.buy(2, 0, 1, 7), 3);
        yes(x, "undo", x.undo());
        due("bought", x.size(5), 7);
        yes(x, "room for one", x.buy(2, 2, 0, 8));
        no(x, "full", x.buy(2, 0, 1, 7), 3);
        elders(x, 0, 1, 0, 1);
        yes(x, "purse", x.purse(0), 8);
        yes(x, "back(1)", x.back(1));
        due("bought", x.size(5), 7);
        elders(x, 0, 1, 2, 0);
        yes(x, "room for one", x.buy(2, 2, 1, 9));
        no(x, "full", x.buy(2, 0, 1, 7), 3);
        yes(x, "back(0)", x.back(0));
        due("bought", x.size(5), 0);
        for (int i = 0; i < 8; i++) {
            yes(x, "room for eight", x.buy(0, 0, 1, i));
        }
        no(x, "full", x.buy(2, 0, 1, 7), 3);
        Texts.family(x, head(4, "round", 0) + THREE);
        yes(x, "a new FAMILY has room", x.buy(0, 0, 1, 1));
    }

    private static void deathsToldAndOthers() {
        promise = "DEATH (told one's year, or another one); -2: he isn't to die; 5 (it is so)";
        for (int from = -2; from < 4; from++) {
            for (int to = -2; to < 4; to++) {
                if (from == -1 || to == -1) {
                    continue;
                }
                ElderTurn x = Texts.of(head(4, "round", 0) + plain("a", 1) + plain("b", 1) + (from < 0 ? "" : ";dies a " + from));
                due("as told", x.person(0, 6), from);
                if (from == to) {
                    no(x, "death(0, " + to + ")", x.death(0, to), 5);
                    acts(x, 0);
                } else {
                    yes(x, "death(0, " + to + ")", x.death(0, to));
                    acts(x, 1);
                    no(x, "once more", x.death(0, to), 5);
                    acts(x, 1);
                }
                yes(x, "the year in which he dies NOW", x.person(0, 6), to);
                yes(x, "the other one's", x.person(1, 6), -2);
                for (int year = 0; year < 4; year++) {
                    yes(x, "there(" + year + ")", x.there(year), to < 0 || year < to ? 3 : 2);
                }
                due("undo", x.undo(), from != to);
                due("as told", x.person(0, 6), from);
            }
        }
        // Each of ten has his own year.
        ElderTurn ten = Texts.of(head(12, "round", 0) + plain("a", 1) + plain("b", 1) + plain("c", 1) + plain("d", 1)
                + plain("e", 1) + plain("f", 1) + plain("g", 1) + plain("h", 1) + plain("i", 1) + plain("j", 1));
        for (int p = 0; p < 10; p++) {
            yes(ten, "death", ten.death(p, p + 1));
        }
        for (int year = 0; year < 12; year++) {
            yes(ten, "there(" + year + ")", ten.there(year), year > 9 ? 0 : 1023 & -(1 << year));
        }
        // One who dies in his turn can be told to die, before, then, or later.
        ElderTurn x = Texts.of(head(6, "round", 0) + someone("a", "plain", "left", "age 1", 2) + plain("b", 1));
        elders(x, 0, 1, 0, -2, 1, 1);
        yes(x, "later", x.death(0, 5));
        elders(x, 0, 1, 0, -2, 1, 1);
        yes(x, "then", x.death(0, 2));
        elders(x, 0, 1, 1, 1, 1, 1);
        yes(x, "the year behind it", x.death(0, 3));
        elders(x, 0, 1, 0, -2, 1, 1);
        yes(x, "deaths()", x.deaths(), 1);
    }

    private static void everyLawBehindEveryLaw() {
        promise = "LAW: true; 5 (it is that)";
        int[][] want = {{0, 1, 2, 0}, {2, 0, 1, 2}, {1, 0, 2, 1}, {2, 0, 1, 1}, {2, 0, 1, 2}};
        for (int from = 0; from < 5; from++) {
            for (int to = 0; to < 5; to++) {
                ElderTurn x = Texts.of(head(4, "round", 0) + THREE);
                due("law(" + from + ")", x.law(from), from != 0);
                due("law(" + to + ")", x.law(to), from != to);
                due("trouble", x.trouble(), from == to ? 5 : 0);
                due("the LAW NOW", x.size(1), to);
                acts(x, (from != 0 ? 1 : 0) + (from != to ? 1 : 0));
                elders(x, want[to]);
            }
        }
    }

    private static void seedIsNoAct() {
        promise = "SEED (no ACT)";
        ElderTurn x = Texts.of(head(4, "lot", 0) + THREE);
        for (int v : new int[] {0, 0, 1, 65535, 65536, 65536, 0}) {
            yes(x, "seed(" + v + ")", x.seed(v));
            due("SEED", x.size(9), v);
            acts(x, 0);
            no(x, "undo", x.undo(), 6);
            due("SEED stays", x.size(9), v);
        }
        x.law(0);
        x.undo();
        acts(x, 0);
        yes(x, "seed behind undo", x.seed(9));
        no(x, "undo", x.undo(), 6);
    }

    // ---- undo

    private static void undoTakesBackEachSort() {
        promise = "UNDO: all is as ahead of the latest";
        List<Act> acts = List.of(x -> x.buy(1, 0, 1, 9), x -> x.death(1, 2), x -> x.death(0, 0), x -> x.law(3), x -> x.law(0),
                x -> x.buy(0, 2, 3, 99));
        List<String> want = Answers.ofYears(fresh());
        for (int i = 0; i < acts.size(); i++) {
            ElderTurn x = fresh();
            yes(x, "act " + i, acts.get(i).of(x));
            acts(x, 1);
            yes(x, "undo()", x.undo());
            acts(x, 0);
            no(x, "undo()", x.undo(), 6);
            same("undo of act " + i, Answers.ofYears(x), want);
            yes(x, "done again", acts.get(i).of(x));
        }
    }

    private static void undoTakesBackTheSeed() {
        promise = "UNDO: all, SEED too";
        ElderTurn x = Texts.of(head(4, "lot", 0) + THREE);
        x.seed(65536);
        x.law(0);
        x.seed(1);
        x.seed(2);
        yes(x, "undo()", x.undo());
        due("SEED as ahead of the latest act", x.size(9), 65536);
        elders(x, 1, 0, 2, 1);
        x.seed(77);
        no(x, "undo()", x.undo(), 6);
        due("a refused one leaves it", x.size(9), 77);
    }

    private static void twelveAreKept() {
        promise = "UNDO (12 are kept)";
        for (int many = 0; many <= 30; many++) {
            ElderTurn x = Texts.of(head(24, "round", 0) + THREE);
            for (int i = 0; i < many; i++) {
                yes(x, "death", x.death(0, i % 24));
                acts(x, Math.min(12, i + 1));
            }
            for (int i = many - 1; i >= 0 && i >= many - 12; i--) {
                yes(x, "undo of " + i, x.undo());
                yes(x, "as ahead of it", x.person(0, 6), i == 0 ? -2 : (i - 1) % 24);
                acts(x, Math.min(12, many) - (many - i));
            }
            no(x, "a thirteenth, or more than there were", x.undo(), 6);
            yes(x, "as it was", x.person(0, 6), many <= 12 ? -2 : (many - 13) % 24);
        }
    }

    private static void undoOfManyInTheirOrder() {
        promise = "UNDO: over and over, acts and undoing mixed";
        ElderTurn x = fresh();
        List<List<String>> ahead = new ArrayList<>();
        List<Act> acts = List.of(y -> y.law(0), y -> y.buy(0, 0, 1, 3), y -> y.death(2, 1), y -> y.law(4), y -> y.death(2, -2),
                y -> y.buy(3, 1, 0, 4), y -> y.law(3));
        for (int i = 0; i < acts.size(); i++) {
            x.seed(i);
            ahead.add(look(x));
            yes(x, "act " + i, acts.get(i).of(x));
            if (i % 3 == 2) {
                yes(x, "undo", x.undo());
                same("undo of " + i, look(x), ahead.get(i));
                yes(x, "act " + i + " again", acts.get(i).of(x));
            }
        }
        for (int i = acts.size() - 1; i >= 0; i--) {
            yes(x, "undo", x.undo());
            due("SEED", x.size(9), i);
            due("acts", x.size(10), i);
        }
        same("all undone", look(x), ahead.get(0));
    }

    private static void refusedActsAreNotKept() {
        promise = "refused: nothing to undo comes of it";
        ElderTurn x = Texts.of(head(4, "round", 0) + THREE);
        x.buy(0, 0, 0, 0);
        x.buy(4, 0, 1, 0);
        x.buy(0, 0, 1, 100);
        x.death(3, 0);
        x.death(0, 4);
        x.death(0, -2);
        x.law(5);
        x.law(0);
        x.seed(-1);
        x.back(0);
        acts(x, 0);
        no(x, "undo()", x.undo(), 6);
        x.law(2);
        x.law(2);
        x.death(0, -1);
        x.buy(0, 1, 1, 0);
        acts(x, 1);
        yes(x, "undo()", x.undo());
        due("the law's", x.size(1), 0);
    }

    // ---- marks

    private static void marksUpTo3() {
        promise = "MARKS: up to 3; a MARK: its number. NONE: 1 (no FAMILY); 3";
        ElderTurn x = new ElderTurn();
        no(x, "mark()", x.mark(), 1);
        due("MARKS", x.size(11), 0);
        Texts.family(x, head(4, "round", 0) + THREE);
        for (int i = 0; i < 3; i++) {
            no(x, "back(" + i + "), not yet", x.back(i), 1);
            yes(x, "mark()", x.mark(), i);
            due("MARKS", x.size(11), i + 1);
            yes(x, "back(" + i + ")", x.back(i));
        }
        for (int i = 0; i < 3; i++) {
            no(x, "no room", x.mark(), 3);
            due("MARKS", x.size(11), 3);
        }
        no(x, "back(3)", x.back(3), 1);
        no(x, "back(-1)", x.back(-1), 1);
    }

    private static void markIsNoAct() {
        promise = "mark: all is as ahead of it";
        ElderTurn x = fresh();
        x.law(4);
        x.seed(3);
        List<String> ahead = look(x);
        yes(x, "mark()", x.mark(), 0);
        same("mark", look(x), ahead);
        acts(x, 1);
        yes(x, "undo() takes back the law", x.undo());
        due("the LAW NOW", x.size(1), 1);
    }

    private static void backIsAsByTheMark() {
        promise = "back: All is as by a MARK (all MARKS stay)";
        ElderTurn x = fresh();
        List<List<String>> marked = new ArrayList<>();
        for (int i = 0; i < 3; i++) {
            x.seed(i * 7);
            if (i > 0) {
                x.law(2 + i);
                x.death(i, i);
                x.buy(i, i, 0, 10 * i);
            }
            marked.add(look(x));
            yes(x, "mark()", x.mark(), i);
        }
        x.law(2);
        for (int to : new int[] {2, 0, 1, 1, 0, 2}) {
            yes(x, "back(" + to + ")", x.back(to));
            due("MARKS", x.size(11), 3);
            due("SEED", x.size(9), 7 * to);
            due("the LAW NOW", x.size(1), to == 0 ? 1 : 2 + to);
            due("bought", x.size(5), to);
            yes(x, "the first one's death", x.person(1, 6), to < 1 ? -2 : 1);
            yes(x, "the second one's death", x.person(2, 6), to < 2 ? -2 : 2);
            acts(x, 0);
        }
        ElderTurn y = fresh();
        y.mark();
        y.law(3);
        y.death(1, 1);
        y.death(2, 2);
        y.buy(2, 2, 0, 20);
        y.seed(14);
        yes(y, "back(0)", y.back(0));
        same("as by the mark", look(y), marked.get(0));
    }

    private static void backForgetsWhatCanBeUndone() {
        promise = "gone back to one, nothing can be undone";
        for (int acts = 0; acts <= 14; acts++) {
            ElderTurn x = Texts.of(head(24, "round", 0) + THREE);
            for (int i = 0; i < acts; i++) {
                x.death(0, i);
            }
            yes(x, "mark()", x.mark(), 0);
            yes(x, "back(0)", x.back(0));
            acts(x, 0);
            no(x, "undo()", x.undo(), 6);
            yes(x, "as by the mark", x.person(0, 6), acts - 1 < 0 ? -2 : acts - 1);
            yes(x, "an act behind it", x.law(1));
            acts(x, 1);
            yes(x, "can be undone", x.undo());
            no(x, "no more", x.undo(), 6);
        }
        ElderTurn y = Texts.of(head(4, "round", 0) + THREE);
        y.law(1);
        no(y, "a refused back", y.back(0), 1);
        acts(y, 1);
        yes(y, "leaves what can be undone", y.undo());
    }

    private static void backOverAndOver() {
        promise = "All is as by a MARK: what comes behind it doesn't change the MARK";
        ElderTurn x = Texts.of(head(4, "round", 0) + THREE);
        x.buy(0, 0, 1, 5);
        x.mark();
        for (int i = 0; i < 10; i++) {
            x.law(1 + i % 4);
            x.death(0, i % 4);
            x.death(1, 0);
            x.undo();
            x.buy(1, 2, 1, i);
            x.seed(i);
            yes(x, "back(0)", x.back(0));
            due("the LAW NOW", x.size(1), 0);
            due("SEED", x.size(9), 0);
            due("bought", x.size(5), 1);
            elders(x, 1, 2, 0, 1);
            yes(x, "purse", x.purse(1), 5);
            yes(x, "lives", x.person(0, 6), -2);
        }
    }

    private static void backToOtherBuys() {
        promise = "All is as by a MARK: what was bought then, not what came in its place";
        ElderTurn x = Texts.of(head(4, "round", 0) + THREE);
        x.buy(0, 0, 1, 5);
        x.mark();
        x.undo();
        x.buy(0, 0, 2, 9);
        x.mark();
        x.undo();
        x.buy(1, 1, 0, 7);
        elders(x, 0, 0, 1, 2);
        for (int i = 0; i < 2; i++) {
            yes(x, "back(0)", x.back(0));
            elders(x, 1, 2, 0, 1);
            yes(x, "purse(0)", x.purse(0), -5);
            yes(x, "back(1)", x.back(1));
            elders(x, 2, 0, 1, 2);
            yes(x, "purse(0)", x.purse(0), -9);
        }
        // All eight, each with its four numbers.
        ElderTurn y = Texts.of(head(8, "round", 0) + THREE);
        for (int i = 0; i < 8; i++) {
            y.buy(i, i % 3, (i + 1) % 3, 10 * i);
        }
        y.mark();
        List<String> want = look(y);
        for (int i = 0; i < 8; i++) {
            y.undo();
        }
        for (int i = 0; i < 8; i++) {
            y.buy(7 - i, 2, 0, i);
        }
        due("others", look(y).equals(want), false);
        yes(y, "back(0)", y.back(0));
        same("as by the mark", look(y), want);
    }

    private static void undoLeavesMarks() {
        promise = "UNDO, and what can be undone, leave MARKS; the SEED of a MARK is its own";
        ElderTurn x = Texts.of(head(4, "lot", 0) + THREE);
        x.law(0);
        x.seed(5);
        x.mark();
        yes(x, "undo()", x.undo());
        due("MARKS", x.size(11), 1);
        due("SEED", x.size(9), 0);
        due("the LAW NOW", x.size(1), 3);
        yes(x, "back(0), to what was undone", x.back(0));
        due("SEED", x.size(9), 5);
        due("the LAW NOW", x.size(1), 0);
        yes(x, "the next one's number", x.mark(), 1);
    }

    private static void familyForgetsAll() {
        promise = "family: SEED 0; nothing to undo, no MARKS; 4 (the FAMILY stays)";
        ElderTurn x = fresh();
        x.seed(9);
        x.law(0);
        x.mark();
        x.mark();
        x.death(0, 1);
        no(x, "a faulty one", Texts.family(x, "odd"), 4);
        acts(x, 2);
        due("MARKS stay", x.size(11), 2);
        due("SEED stays", x.size(9), 9);
        no(x, "refused by 2", x.family(1), 2);
        acts(x, 2);
        yes(x, "undo()", x.undo());
        yes(x, "back(1)", x.back(1));
        x.death(0, 1);
        yes(x, "another one", Texts.family(x, head(8, "eldest", 5) + PEOPLE), 4);
        int[] want = {8, 1, 5, 4, 4, 0, 2, 1, 2, 0, 0, 0, 0};
        for (int what = 0; what < want.length; what++) {
            due("size(" + what + ")", x.size(what), want[what]);
        }
        no(x, "undo()", x.undo(), 6);
        no(x, "back(0)", x.back(0), 1);
        same("as a new object", Answers.ofYears(x), Answers.ofYears(fresh()));
        yes(x, "marks are told from 0 on", x.mark(), 0);
    }
}
