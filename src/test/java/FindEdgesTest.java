import java.math.BigInteger;

/** What is found from all years together, other laws, rows, chains, trades, diaries, votes, chances: Terms III. */
final class FindEdgesTest extends Checks {
    public static void main(String[] args) {
        fairOfThoseThereBehindAllYears();
        fairOfOne();
        firstAndLastYears();
        byLawAsAllIsNow();
        bestLawTheFirstSuch();
        rowsOfAllYears();
        rowsTheFirstByNumbers();
        rowsOfWhoCan();
        rowsOfTwins();
        rowsWithEmptyYears();
        rowsBuyNothing();
        chainsOf0To4();
        chainsByWhoWrites();
        chainsOfLateOnes();
        tradesEitherWay();
        tradesWhereHeCant();
        tradesAheadOfWhatIsBought();
        bestTradeTheFirstSuch();
        fitsEachLawAlone();
        fitsAllDiaries();
        seedsBelowN();
        powerAroundHalf();
        powerOfTen();
        standsInLowestTerms();
        standsOfYearsWithoutElder();
        meanRound();
        end();
    }

    private static String names(int many) {
        StringBuilder text = new StringBuilder();
        for (int p = 0; p < many; p++) {
            text.append(plain("" + (char) ('a' + p), 5));
        }
        return text.toString();
    }

    private static void row(ElderTurn x, int harm, int... want) {
        yes(x, "row(" + want.length + ")", x.row(want.length), harm);
        for (int i = 0; i < want.length; i++) {
            yes(x, "rowAt(" + want.length + ", " + i + ")", x.rowAt(want.length, i), want[i]);
        }
    }

    // ---- all years together

    private static void fair(String text, int want) {
        ElderTurn x = Texts.of(text);
        yes(x, "fair() of " + text, x.fair(), want);
    }

    private static void fairOfThoseThereBehindAllYears() {
        promise = "FAIR: most TURNS less the least of those THERE behind all years; 0 without any";
        // a, a, a, b: of a and b, and of b alone.
        String often = head(4, "round", 0) + names(2) + ";buys 1 b a price 0;buys 2 b a price 0";
        fair(often, 2);
        fair(often + ";dies a 3", 0);
        fair(often + ";dies b 3", 0);
        fair(often + ";dies a 3;dies b 3", 0);
        fair(often + ";dies a 0;dies b 0", 0);
        // z, born in the last year, is THERE, and has had no turn: a, b, a, b.
        String z = head(4, "round", 0) + someone("z", "plain", "left", "born 3", 9) + names(2);
        fair(z, 2);
        fair(z + ";dies z 3", 0);
        // Soldiers of 30 are THERE, too.
        fair(head(4, "round", 0) + plain("a", 1) + someone("s", "soldier", "left", "age 26", 9), 0);
        fair(head(4, "round", 0) + plain("a", 1) + someone("s", "soldier", "left", "age 27", 9), 2);
        fair(head(4, "round", 0) + plain("a", 1) + someone("s", "soldier", "left", "age 29", 9), 4);
        fair(head(4, "round", 0) + plain("a", 1) + someone("s", "soldier", "left", "age 30", 9), 4);
        // Who dies in his turn in the last year, or in the last but one, isn't.
        String s = someone("s", "soldier", "left", "age 30", 9);
        fair(head(4, "round", 0) + someone("a", "plain", "left", "age 1", 5) + s, 4);
        fair(head(4, "round", 0) + someone("a", "plain", "left", "age 1", 4) + s, 0);
        fair(head(4, "round", 0) + someone("a", "plain", "left", "age 1", 3) + s, 0);
        fair(head(4, "round", 0) + someone("a", "plain", "left", "age 1", 4), 0);
    }

    private static void fairOfOne() {
        promise = "FAIR of one, and of all alike";
        for (int years = 4; years <= 8; years++) {
            fair(head(years, "eldest", 0) + names(1), 0);
            fair(head(years, "eldest", 0) + names(4), years % 4 == 0 ? 0 : 1);
            fair(head(years, "eldest", 0) + names(10), 1);
        }
        fair(head(10, "eldest", 0) + names(10), 0);
        fair(head(20, "eldest", 0) + names(10), 0);
        fair(head(21, "eldest", 0) + names(10), 1);
    }

    private static void firstAndLastYears() {
        promise = "The first year in which he is it; -2. The last one; -2";
        for (int years : new int[] {4, 24}) {
            ElderTurn x = Texts.of(head(years, "round", 0) + names(10));
            for (int p = 0; p < 10; p++) {
                yes(x, "first(" + p + ") of " + years, x.first(p), p < years ? p : -2);
                int last = (years - 1 - p) / 10 * 10 + p;
                yes(x, "last(" + p + ") of " + years, x.last(p), p < years ? last : -2);
            }
        }
        ElderTurn end = Texts.of(head(5, "round", 0) + names(1) + someone("z", "plain", "left", "born 4", 9));
        yes(end, "first, in the last year", end.first(1), 4);
        yes(end, "last, in the last year", end.last(1), 4);
        yes(end, "last, ahead of it", end.last(0), 3);
        yes(end, "soonest, without secrets", end.first(0), 0);
    }

    // ---- other laws

    private static void byLawAsAllIsNow() {
        promise = "BY A LAW: all years by it, SEED as it is; what is bought or dies by ACTS counts";
        ElderTurn x = Texts.of(head(4, "round", 0) + THREE + ";plan b 0 to 0 harm 1;plan c 0 to 0 harm 2;plan a 0 to 0 harm 4");
        int[] harm = {4, 2, 1, 2, 2};
        for (int law = 0; law < 5; law++) {
            yes(x, "byLaw(" + law + ", 0)", x.byLaw(law, 0), harm[law]);
        }
        x.seed(65536);
        // 65,536 becomes itself; mod 3 it is 1.
        yes(x, "lot by that SEED", x.byLaw(3, 0), 1);
        yes(x, "SEED stays", x.size(9), 65536);
        yes(x, "the LAW NOW stays", x.size(1), 0);
        yes(x, "asked again", x.byLaw(3, 0), 1);
        x.buy(0, 0, 2, 1);
        yes(x, "bought by ACTS", x.byLaw(0, 0), 2);
        x.death(2, 0);
        yes(x, "c is dead: round a, who can't sell to him", x.byLaw(0, 0), 4);
        yes(x, "eldest a", x.byLaw(1, 0), 4);
        x.undo();
        x.undo();
        yes(x, "as it was", x.byLaw(1, 0), 2);
    }

    private static void best(String text, int measure, int want) {
        ElderTurn x = Texts.of(text);
        yes(x, "bestLaw(" + measure + ") of " + text, x.bestLaw(measure), want);
        for (int law = 0; law < 5; law++) {
            int more = x.byLaw(law, measure) - x.byLaw(want, measure);
            due("none is less", law < want ? more > 0 : more >= 0, true);
        }
    }

    private static void bestLawTheFirstSuch() {
        promise = "BEST LAW: by which that is least, the first such";
        // Round: a, b, c, a; eldest and vote: c, a, b, c; youngest: b, a, c, b; lot: c, a, b, b.
        String four = head(4, "vote", 0) + THREE;
        best(four, 0, 0);
        best(four + ";plan b 0 to 0 harm 1;plan c 0 to 0 harm 1", 0, 0);
        best(four + ";plan a 0 to 0 harm 1;plan b 0 to 0 harm 1", 0, 1);
        best(four + ";plan a 0 to 0 harm 1;plan c 0 to 0 harm 1", 0, 2);
        best(four + ";plan a 0 to 0 harm 1;plan b 0 to 0 harm 1;plan c 3 to 3 harm 1", 0, 3);
        // b of the right has no votes by vote alone.
        best(head(4, "round", 0) + ";person a plain branch left age 40 strong 9 weighs 0 frail 0"
                + ";person b plain branch right age 30 strong 9 weighs 9 frail 0;plan b 0 to 3 harm 1", 0, 4);
        // In four years of two, only vote lets one of them die in his fourth turn.
        String weak = ";person a plain branch left age 40 strong 3 weighs 0 frail 0"
                + ";person b plain branch right age 30 strong 3 weighs 9 frail 0";
        best(head(4, "vote", 0) + weak, 1, 0);
        best(head(4, "vote", 0) + weak, 2, 0);
        best(head(4, "vote", 0) + weak, 3, 0);
        ElderTurn x = Texts.of(head(4, "vote", 0) + weak);
        int[] want = {0, 0, 0, 0, 1};
        for (int law = 0; law < 5; law++) {
            yes(x, "deaths by " + law, x.byLaw(law, 1), want[law]);
            yes(x, "FAIR by " + law, x.byLaw(law, 2), 0);
            yes(x, "EMPTY years by " + law, x.byLaw(law, 3), want[law]);
        }
    }

    // ---- rows

    private static void rowsOfAllYears() {
        promise = "ROWS of n (1 .. 4): in a family of four years nothing is left to LAW";
        ElderTurn x = Texts.of(head(4, "lot", 0) + names(3) + ";plan a 0 to 3 harm 9;plan b 0 to 2 harm 5;plan c 1 to 3 harm 5");
        row(x, 10, 2, 1, 1, 1);
        // Of three years, the fourth is drawn of those with fewest TURNS: it had better be b, whose plan is over.
        row(x, 14, 2, 0, 2);
        ElderTurn y = Texts.of(head(4, "round", 0) + names(10) + ";plan j 3 to 3 harm 1");
        row(y, 0, 0, 0, 0, 0);
        ElderTurn alone = Texts.of(head(4, "round", 0) + plain("a", 1) + ";plan a 0 to 3 harm 99");
        for (int n = 1; n <= 4; n++) {
            row(alone, 396, new int[n]);
        }
        yes(alone, "as it is", alone.harmAll(), 396);
    }

    private static void rowsTheFirstByNumbers() {
        promise = "that of least HARM, of like ones the first by numbers";
        // Year 4 is by round: behind the last one.
        String five = head(5, "round", 0) + names(3);
        row(Texts.of(five), 0, 0, 0, 0, 0);
        row(Texts.of(five + ";plan a 4 to 4 harm 7"), 0, 0, 0, 0, 0);
        row(Texts.of(five + ";plan b 4 to 4 harm 7"), 0, 0, 0, 0, 1);
        row(Texts.of(five + ";plan b 4 to 4 harm 7;plan c 4 to 4 harm 7"), 0, 0, 0, 0, 2);
        row(Texts.of(five + ";plan b 4 to 4 harm 7;plan c 4 to 4 harm 8;plan a 4 to 4 harm 9"), 7, 0, 0, 0, 0);
        row(Texts.of(five + ";plan a 0 to 0 harm 1;plan b 0 to 0 harm 1;plan c 0 to 0 harm 1"), 1, 0);
        row(Texts.of(five + ";plan a 0 to 0 harm 2;plan b 0 to 0 harm 1;plan c 0 to 0 harm 1"), 1, 1);
        row(Texts.of(five + ";plan a 0 to 0 harm 2;plan b 0 to 0 harm 2;plan c 0 to 0 harm 1"), 1, 2);
        // By numbers, the first year's first: b, a is behind a, c.
        row(Texts.of(five + ";plan a 1 to 1 harm 1;plan b 1 to 1 harm 1"), 0, 0, 2);
        row(Texts.of(five + ";plan a 0 to 0 harm 1;plan b 1 to 1 harm 1"), 0, 1, 0);
        // The rest by LAW, eldest of those with fewest TURNS: three turns of a leave b and c ahead of him.
        ElderTurn x = Texts.of(head(6, "eldest", 0) + plain("a", 9) + plain("b", 8) + plain("c", 7) + ";plan a 3 to 5 harm 1");
        row(x, 0, 0, 0, 0);
        row(x, 1, 0);
    }

    private static void rowsOfWhoCan() {
        promise = "ROWS: who CAN be it then";
        String a = head(4, "round", 0) + plain("a", 1);
        String harm = ";plan a 0 to 0 harm 5";
        row(Texts.of(a + someone("b", "plain", "left", "born 1", 9) + harm), 5, 0);
        row(Texts.of(a + someone("b", "plain", "left", "age 0", 9) + harm), 0, 1);
        row(Texts.of(a + plain("b", 1) + harm + ";dies b 0"), 5, 0);
        row(Texts.of(a + plain("b", 1) + harm + ";dies b 1"), 0, 1);
        row(Texts.of(a + someone("b", "soldier", "left", "age 30", 9) + harm), 5, 0);
        row(Texts.of(a + someone("b", "soldier", "left", "age 29", 9) + harm), 0, 1);
        // In year 3 b is born, c is 30, d is dead: only b CAN be it in the place of a.
        ElderTurn x = Texts.of(a + someone("c", "soldier", "left", "age 27", 9) + plain("d", 1)
                + someone("b", "plain", "left", "born 3", 9) + ";plan a 3 to 3 harm 5;plan b 3 to 3 harm 4;dies d 3");
        row(x, 4, 0, 0, 0, 3);
        // Who died in his turn can't be chosen again.
        ElderTurn y = Texts.of(a + someone("b", "plain", "left", "age 1", 2) + ";plan a 0 to 3 harm 5");
        row(y, 5, 0, 1, 1, -2);
        ElderTurn nobody = Texts.of(head(5, "round", 0) + someone("s", "soldier", "left", "age 29", 9)
                + someone("b", "plain", "left", "born 3", 9) + ";plan b 4 to 4 harm 3");
        row(nobody, 3, 0, -2, -2, 1);
        row(nobody, 3, 0, -2);
    }

    private static void rowsOfTwins() {
        promise = "ROWS: a twin's second year comes as it does";
        String two = head(5, "round", 0) + someone("t", "twin", "left", "age 1", 9) + plain("b", 1);
        row(Texts.of(two + ";plan t 1 to 1 harm 9;plan b 0 to 0 harm 8"), 8, 1, 1);
        row(Texts.of(two + ";plan t 1 to 1 harm 9;plan b 0 to 0 harm 10"), 9, 0, 0);
        // His third year is chosen anew, and by no means his.
        row(Texts.of(two + ";plan b 0 to 1 harm 9;plan t 2 to 2 harm 1"), 0, 0, 0, 1);
        row(Texts.of(two + ";plan b 0 to 3 harm 9;plan t 3 to 3 harm 1"), 1, 0, 0, 0, 0);
        // The last chosen year is his first: the year behind it is his, too.
        row(Texts.of(two + ";plan b 0 to 0 harm 9;plan t 1 to 1 harm 5"), 5, 0);
        row(Texts.of(two + ";plan b 0 to 0 harm 4;plan t 1 to 1 harm 5;plan t 0 to 0 harm 5"), 4 + 5, 1);
        row(Texts.of(two + ";plan b 0 to 0 harm 4;plan t 2 to 2 harm 5;plan t 0 to 0 harm 1"), 1, 0);
        // A twin who can't have his second year: another one is chosen.
        row(Texts.of(two + ";plan b 0 to 0 harm 9;plan b 1 to 1 harm 2;dies t 1"), 2, 0, 1);
    }

    private static void rowsWithEmptyYears() {
        promise = "ROWS: in an EMPTY year .. these come as they do";
        String two = head(5, "round", 0) + someone("a", "plain", "left", "age 1", 1) + plain("b", 1);
        row(Texts.of(two + ";plan b 1 to 1 harm 9"), 0, 0, -2);
        row(Texts.of(two + ";plan b 1 to 1 harm 9"), 0, 0);
        row(Texts.of(two + ";plan b 1 to 1 harm 9;plan a 0 to 0 harm 9"), 0, 1, 0);
        row(Texts.of(two + ";plan b 0 to 3 harm 9;plan a 2 to 2 harm 1"), 18, 0, -2, 1, 1);
        row(Texts.of(two + ";plan b 3 to 3 harm 9;plan a 0 to 1 harm 1"), 0, 1, 1, 0, -2);
        row(Texts.of(two + ";plan b 4 to 4 harm 9"), 0, 1, 1, 1, 0);
        // The year behind those that are chosen is EMPTY, or a's by round.
        row(Texts.of(two + ";plan b 4 to 4 harm 9;plan a 3 to 3 harm 9"), 0, 1, 1, 1, 1);
        row(Texts.of(two + ";plan b 4 to 4 harm 9;plan a 3 to 4 harm 8"), 8, 1, 1, 1, 0);
    }

    private static void rowsBuyNothing() {
        promise = "ROWS: nothing is bought in them";
        String five = head(5, "round", 0) + names(3) + ";plan b 4 to 4 harm 7";
        for (boolean byActs : new boolean[] {false, true}) {
            row(buying(five, byActs, 4, "b", "a"), 0, 0, 0, 0, 0);
            row(buying(five, byActs, 3, "a", "b"), 0, 0, 0, 0, 1);
            row(buying(five, byActs, 3, "a", "c"), 0, 0, 0, 0, 1);
            // Behind a, a, a comes b, who sells to a: then b comes again.
            row(buying(five, byActs, 3, "b", "a"), 7 - 7, 0, 0, 1);
            // b, then c, a, b, c by round; if a had bought b's year, b would come in year 4.
            row(buying(five, byActs, 0, "b", "a"), 0, 1);
        }
        // Nobody pays, either: what a purse tells is of the years as they are.
        ElderTurn x = buying(five, true, 0, "a", "c");
        yes(x, "row(4)", x.row(4), 0);
        yes(x, "purse", x.purse(0), -9);
    }

    private static ElderTurn buying(String text, boolean byActs, int year, String from, String to) {
        if (!byActs) {
            return Texts.of(text + ";buys " + year + " " + from + " " + to + " price 9");
        }
        ElderTurn x = Texts.of(text);
        yes(x, "buy", x.buy(year, from.charAt(0) - 'a', to.charAt(0) - 'a', 9));
        return x;
    }

    // ---- chains

    private static void chains(ElderTurn x, int... want) {
        for (int p = 0; p < want.length; p++) {
            yes(x, "chain(0, " + p + ")", x.chain(0, p), want[p]);
        }
    }

    private static void chainsOf0To4() {
        promise = "CHAIN: the fewest years (1 .. 4); 0 if he does at first; -2 if 4 aren't enough";
        // Each one hides it from all but the next: a tells b, b tells c, c tells d, d tells e.
        String five = head(9, "round", 0) + names(5) + ";secret s a";
        String hides = ";hides a s c;hides a s d;hides a s e;hides b s d;hides b s e;hides c s e";
        chains(Texts.of(five), 0, 2, 2, 2, 2);
        chains(Texts.of(five + hides), 0, 2, 3, 4, -2);
        chains(Texts.of(five + hides.replace(";hides c s e", "")), 0, 2, 3, 4, 4);
        chains(Texts.of(five + ";hides a s b;hides a s c;hides a s d;hides a s e"), 0, -2, -2, -2, -2);
        ElderTurn x = Texts.of(five + hides);
        yes(x, "e is told all the same behind year 4", x.soonest(0, 4), 4);
        x.death(1, 1);
        chains(x, 0, -2, -2, -2, -2);
        x.death(1, 2);
        chains(x, 0, 2, 3, 4, -2);
        x.death(2, 2);
        chains(x, 0, 2, -2, -2, -2);
        // Two secrets, each with its own.
        ElderTurn y = Texts.of(head(4, "round", 0) + names(3) + ";secret s a;secret t c;hides c t a");
        chains(y, 0, 2, 2);
        yes(y, "chain(1, 0)", y.chain(1, 0), 3);
        yes(y, "chain(1, 1)", y.chain(1, 1), 2);
        yes(y, "chain(1, 2)", y.chain(1, 2), 0);
    }

    private static void chainsByWhoWrites() {
        promise = "CHAIN: by some such ROW one KNOWS a secret behind them";
        String b = plain("b", 1) + ";secret s a";
        // Who dies in it writes nothing; who reads and dies in it knows.
        chains(Texts.of(head(5, "round", 0) + someone("a", "plain", "left", "age 1", 1) + b), 0, -2);
        chains(Texts.of(head(5, "round", 0) + someone("a", "plain", "left", "age 1", 2) + b), 0, 2);
        chains(Texts.of(head(5, "round", 0) + plain("a", 1) + someone("b", "plain", "left", "age 1", 1) + ";secret s a"), 0, 2);
        // A twin has his second year first; one who dies in it leaves the chair EMPTY.
        chains(Texts.of(head(5, "round", 0) + someone("a", "twin", "left", "age 1", 9) + b), 0, 3);
        chains(Texts.of(head(5, "round", 0) + someone("a", "twin", "left", "age 1", 2) + b), 0, 4);
        chains(Texts.of(head(5, "round", 0) + someone("a", "twin", "left", "age 1", 9) + b + ";dies a 1"), 0, 2);
        // Nothing is bought: a writes, though he sells all his turns.
        ElderTurn x = Texts.of(head(4, "round", 0) + plain("a", 1) + b + ";buys 0 a b price 1;buys 1 a b price 1");
        chains(x, 0, 2);
        x.buy(2, 0, 1, 3);
        chains(x, 0, 2);
        yes(x, "as it runs", x.soonest(0, 1), -2);
    }

    private static void chainsOfLateOnes() {
        promise = "CHAIN: who CAN be it then";
        for (int born = 1; born <= 5; born++) {
            // The one who knows, or the one who is to be told, is born late.
            chains(Texts.of(head(6, "round", 0) + someone("a", "plain", "left", "born " + born, 9) + plain("b", 1)
                    + ";secret s a"), 0, born <= 2 ? born + 2 : -2);
            chains(Texts.of(head(6, "round", 0) + plain("a", 1) + someone("b", "plain", "left", "born " + born, 9)
                    + ";secret s a"), 0, born <= 3 ? born + 1 : -2);
            // Or dies early: a is there in year 0 at least, b in year 1.
            chains(Texts.of(head(6, "round", 0) + plain("a", 1) + plain("b", 1) + ";secret s a;dies b " + born), 0,
                    born >= 2 ? 2 : -2);
        }
        chains(Texts.of(head(6, "round", 0) + plain("a", 1) + plain("b", 1) + ";secret s a;dies a 0"), 0, -2);
        chains(Texts.of(head(6, "round", 0) + plain("a", 1) + plain("b", 1) + ";secret s a;dies a 1"), 0, 2);
        chains(Texts.of(head(6, "round", 0) + plain("a", 1) + someone("b", "soldier", "left", "age 28", 9) + ";secret s a"), 0,
                2);
        chains(Texts.of(head(6, "round", 0) + plain("a", 1) + someone("b", "soldier", "left", "age 29", 9) + ";secret s a"), 0,
                -2);
    }

    // ---- trades

    private static void tradesEitherWay() {
        promise = "TRADE of two: each in the other's place whenever LAW has one of them";
        String four = head(4, "eldest", 0) + plain("a", 9) + plain("b", 8) + plain("c", 7);
        // a, b, c, a. With a and b changed LAW has a, who has no turn yet, again and again: b, b, b, b.
        ElderTurn x = Texts.of(four + ";plan a 0 to 0 harm 1;plan b 0 to 0 harm 2;plan b 3 to 3 harm 40;plan c 2 to 2 harm 8");
        elders(x, 0, 1, 2, 0);
        yes(x, "as it is", x.harmAll(), 9);
        yes(x, "trade(0, 1): b, b, b, b", x.trade(0, 1), 2 + 40 - 9);
        yes(x, "trade(1, 0)", x.trade(1, 0), 2 + 40 - 9);
        // c, c, c, c, and for b and c: a, c, c, c.
        yes(x, "trade(0, 2)", x.trade(0, 2), 8 - 9);
        yes(x, "trade(2, 0)", x.trade(2, 0), 8 - 9);
        yes(x, "trade(1, 2): a, c, c, c", x.trade(1, 2), 1 + 8 - 9);
        yes(x, "trade(2, 1)", x.trade(2, 1), 1 + 8 - 9);
        yes(x, "bestTrade()", x.bestTrade(), 2);
        // By lot it draws as it does without: 74 % 3 = 2, c: so a; 5624 % 2 = 0 of b and c, b; 28652 % 1, c: so a.
        ElderTurn y = Texts.of(head(4, "lot", 0) + names(3) + ";plan a 2 to 2 harm 9;plan c 0 to 0 harm 5");
        elders(y, 2, 0, 1, 1);
        yes(y, "trade(0, 2)", y.trade(0, 2), 9 - 5);
    }

    private static void tradesWhereHeCant() {
        promise = "TRADE: (and he CAN be it)";
        String a = head(4, "eldest", 0) + plain("a", 90);
        String plan = ";plan a 0 to 0 harm 5";
        trade(a + someone("b", "plain", "left", "born 1", 9) + plan, 0);
        trade(a + someone("b", "plain", "left", "age 0", 9) + plan, -5);
        trade(a + plain("b", 1) + plan + ";dies b 0", 0);
        trade(a + plain("b", 1) + plan + ";dies b 1", -5);
        trade(a + someone("b", "soldier", "left", "age 30", 9) + plan, 0);
        trade(a + someone("b", "soldier", "left", "age 29", 9) + plan, -5);
        // As it is: a, b, EMPTY, a. Changed b dies in the first year: EMPTY, then a, as b can't.
        trade(a + someone("b", "plain", "left", "age 1", 1) + ";plan a 0 to 3 harm 5", 0);
        trade(a + someone("b", "plain", "left", "age 1", 1) + ";plan a 0 to 2 harm 5", 0);
        trade(a + someone("b", "plain", "left", "age 1", 1) + ";plan a 0 to 1 harm 5", -5);
        trade(a + someone("b", "plain", "left", "age 1", 1) + ";plan a 2 to 2 harm 5", 5);
        // A twin's second year isn't LAW's: a, a; in the change b, then LAW has a again: b.
        trade(head(4, "eldest", 0) + someone("a", "twin", "left", "age 9", 9) + plain("b", 1) + ";plan a 0 to 1 harm 5", -10);
        trade(head(4, "eldest", 0) + plain("b", 9) + someone("a", "twin", "left", "age 1", 9) + ";plan b 1 to 1 harm 5", 0);
        // Nobody is it in an EMPTY year, or if nobody CAN.
        trade(head(4, "eldest", 0) + someone("s", "soldier", "left", "age 30", 9) + someone("u", "soldier", "left", "age 31", 9)
                + ";plan s 0 to 3 harm 5", 0);
    }

    private static void trade(String text, int want) {
        ElderTurn x = Texts.of(text);
        yes(x, "trade(0, 1) of " + text, x.trade(0, 1), want);
        yes(x, "trade(1, 0) of " + text, x.trade(1, 0), want);
    }

    private static void tradesAheadOfWhatIsBought() {
        promise = "TRADE: whenever LAW has one of them; then what is bought";
        String four = head(4, "round", 0) + names(3);
        // a sells to c. Changed, b is it, who sells nothing.
        trade(four + ";buys 0 a c price 1;plan c 0 to 0 harm 5", -5);
        // b sells to c; he is it once they have changed.
        trade(four + ";buys 0 b c price 1;plan c 0 to 0 harm 5", 5);
        // b sells it back to a.
        trade(four + ";buys 0 b a price 1;plan b 0 to 0 harm 5", 0);
        ElderTurn x = Texts.of(four + ";plan c 0 to 0 harm 5");
        x.buy(0, 1, 2, 1);
        yes(x, "by ACTS, too", x.trade(0, 1), 5);
    }

    private static void bestTradeTheFirstSuch() {
        promise = "BEST TRADE: that of least, the first such: 100 times the lesser number and the greater";
        for (int law = 0; law < 5; law++) {
            for (int seed = 0; seed < 40; seed++) {
                ElderTurn x = Texts.of(head(6, "vote", 0) + names(10) + ";plan i " + seed % 6 + " to 5 harm 9;plan a 0 to 4 harm 2");
                x.law(law);
                x.seed(seed);
                int want = -1;
                int least = 0;
                for (int p = 0; p < 10; p++) {
                    for (int q = p + 1; q < 10; q++) {
                        int harm = x.trade(p, q);
                        if (want < 0 || harm < least) {
                            want = 100 * p + q;
                            least = harm;
                        }
                    }
                }
                yes(x, "bestTrade() by law " + law + " and seed " + seed, x.bestTrade(), want);
            }
        }
        // But for the last two all are dead, so that no other two can change.
        ElderTurn last = Texts.of(head(4, "eldest", 0) + names(10) + ";plan i 0 to 0 harm 5;dies a 0;dies b 0;dies c 0;dies d 0"
                + ";dies e 0;dies f 0;dies g 0;dies h 0");
        yes(last, "trade(8, 9)", last.trade(8, 9), -5);
        yes(last, "trade(7, 9)", last.trade(7, 9), 0);
        yes(last, "bestTrade()", last.bestTrade(), 809);
        last.death(7, -2);
        yes(last, "the eldest is h now", last.elder(0), 7);
        yes(last, "no harm: the first two", last.bestTrade(), 1);
        // None is any good: the one that does least harm.
        ElderTurn bad = Texts.of(head(4, "eldest", 0) + plain("a", 9) + plain("b", 8) + plain("c", 7)
                + ";plan b 0 to 0 harm 9;plan c 0 to 1 harm 5");
        yes(bad, "trade(0, 1)", bad.trade(0, 1), 9);
        yes(bad, "trade(0, 2)", bad.trade(0, 2), 10);
        yes(bad, "trade(1, 2)", bad.trade(1, 2), 5);
        yes(bad, "bestTrade()", bad.bestTrade(), 102);
        ElderTurn two = Texts.of(head(4, "eldest", 0) + plain("a", 9) + plain("b", 8) + ";plan b 0 to 0 harm 99");
        yes(two, "bestTrade() of two, though it is worse", two.bestTrade(), 1);
        ElderTurn dead = Texts.of(head(4, "eldest", 0) + names(2) + ";dies a 0;dies b 0");
        yes(dead, "bestTrade() of two who are dead", dead.bestTrade(), 1);
        yes(dead, "trade(0, 1)", dead.trade(0, 1), 0);
    }

    // ---- diaries

    private static void fits(String text, int bits) {
        ElderTurn x = Texts.of(text);
        yes(x, "fits() of " + text, x.fits(), bits);
    }

    private static void fitsEachLawAlone() {
        promise = "FITS: LAWS, as bits, by which all DIARIES are so";
        // Round: a, b, c, a; eldest: c, a, b, c; youngest: b, a, c, b; lot: c, a, b, b; vote, as c weighs least: a, a, a, a.
        String four = head(4, "round", 0) + ";person a plain branch left age 40 strong 9 weighs 1 frail 0"
                + ";person b plain branch right age 30 strong 9 weighs 2 frail 0"
                + ";person c plain branch right age 50 strong 9 weighs 0 frail 0";
        fits(four, 31);
        fits(four + ";diary 1 b", 1);
        fits(four + ";diary 3 c", 2);
        fits(four + ";diary 0 b", 4);
        fits(four + ";diary 0 c;diary 3 b", 8);
        fits(four + ";diary 3 a;not 1 b", 16);
        fits(four + ";not 1 b", 30);
        fits(four + ";not 3 c", 29);
        fits(four + ";not 0 b", 27);
        fits(four + ";not 0 c", 21);
        fits(four + ";not 3 a", 14);
    }

    private static void fitsAllDiaries() {
        promise = "FITS: all DIARIES; diary: he was it in that year; not: he wasn't";
        String four = head(4, "round", 0) + names(3);
        String so = ";diary 0 a".repeat(7);
        fits(four + so + ";not 0 b", 1 + 2 + 4 + 16);
        fits(four + so + ";not 0 a", 0);
        fits(four + so + ";diary 1 a", 0);
        fits(four + ";not 0 a" + so, 0);
        fits(four + so + ";diary 3 a", 1 + 2 + 4 + 16);
        // In a year of nobody no diary is so, and each not is.
        String empty = head(4, "round", 0) + someone("a", "plain", "left", "age 1", 1) + someone("b", "soldier", "left",
                "age 90", 9);
        fits(empty + ";diary 0 a", 31);
        fits(empty + ";diary 1 a", 0);
        fits(empty + ";diary 1 b", 0);
        fits(empty + ";not 1 a;not 1 b;not 2 a;not 3 b", 31);
        // What is bought, and who dies, by ACTS, counts.
        ElderTurn x = Texts.of(four + ";diary 0 c;diary 1 a");
        yes(x, "as it is told", x.fits(), 8);
        x.buy(0, 0, 2, 1);
        yes(x, "bought", x.fits(), 1 + 2 + 4 + 16 + 8);
        x.death(2, 0);
        yes(x, "dead", x.fits(), 0);
        x.undo();
        x.seed(65536);
        yes(x, "SEED as it is: b comes first", x.fits(), 1 + 2 + 4 + 16);
    }

    private static void seedsBelowN() {
        promise = "SEEDS: of 0 up to n less 1 those by which lot FITS";
        ElderTurn x = Texts.of(head(8, "round", 0) + names(7) + ";diary 0 e;diary 1 a;not 2 b");
        boolean[] fits = new boolean[200];
        for (int v = 0; v < 200; v++) {
            x.seed(v);
            fits[v] = (x.fits() & 8) != 0;
        }
        int count = 0;
        int first = -2;
        for (int n = 1; n <= 200; n++) {
            count += fits[n - 1] ? 1 : 0;
            first = first < 0 && fits[n - 1] ? n - 1 : first;
            if (n < 20 || n > 195 || fits[n - 1] || n == first + 1) {
                ElderTurn y = n % 2 == 0 ? x : Texts.of(head(8, "vote", 0) + names(7) + ";diary 0 e;diary 1 a;not 2 b");
                yes(y, "seeds(" + n + ")", y.seeds(n), count);
                yes(y, "firstSeed(" + n + ")", y.firstSeed(n), first);
            }
        }
        due("some fit, and not the first", first > 0 && count > 1, true);
        yes(x, "SEED stays", x.size(9), 199);
    }

    // ---- votes and chances

    private static String voter(int p, int weighs, String age) {
        return ";person " + (char) ('a' + p) + " plain branch left " + age + " strong 9 weighs " + weighs + " frail 0";
    }

    private static void powers(int[] weighs, int... want) {
        StringBuilder text = new StringBuilder(head(4, "lot", 0));
        for (int p = 0; p < weighs.length; p++) {
            text.append(voter(p, weighs[p], "age 0"));
        }
        ElderTurn x = Texts.of(text.toString());
        for (int p = 0; p < weighs.length; p++) {
            yes(x, "power(" + p + ")", x.power(p), want[p]);
        }
    }

    private static void powerAroundHalf() {
        promise = "POWER: sets that weigh no more than half of all who are THERE, and with him more";
        powers(new int[] {0}, 0);
        powers(new int[] {1}, 1);
        powers(new int[] {9}, 1);
        powers(new int[] {0, 0, 0}, 0, 0, 0);
        powers(new int[] {1, 0, 0}, 4, 0, 0);
        powers(new int[] {1, 1}, 1, 1);
        powers(new int[] {2, 1}, 2, 0);
        powers(new int[] {1, 1, 1}, 2, 2, 2);
        powers(new int[] {2, 1, 1}, 3, 1, 1);
        powers(new int[] {3, 1, 1}, 4, 0, 0);
        powers(new int[] {3, 2, 1}, 3, 1, 1);
        powers(new int[] {3, 2, 2}, 2, 2, 2);
        // Who isn't THERE in year 0 weighs nothing, and has no power.
        ElderTurn x = Texts.of(head(4, "lot", 0) + voter(0, 2, "age 0") + voter(1, 1, "age 0") + voter(2, 9, "born 1")
                + voter(3, 9, "age 1") + ";dies d 0");
        int[] want = {2, 0, 0, 0};
        for (int p = 0; p < 4; p++) {
            yes(x, "power(" + p + ")", x.power(p), want[p]);
        }
        x.death(3, 1);
        yes(x, "d is THERE in year 0", x.power(3), 4);
        yes(x, "and outweighs a", x.power(0), 0);
        x.undo();
        yes(x, "and isn't", x.power(3), 0);
        // A soldier of 30 is THERE.
        ElderTurn s = Texts.of(head(4, "lot", 0) + ";person s soldier branch right age 90 strong 1 weighs 5 frail 0"
                + voter(0, 1, "age 0"));
        yes(s, "a soldier of 90", s.power(0), 2);
    }

    private static void powerOfTen() {
        promise = "POWER: of all sets";
        int[][] many = {{9, 9, 9, 9, 9, 9, 9, 9, 9, 9}, {0, 1, 2, 3, 4, 5, 6, 7, 8, 9}, {9, 9, 9, 9, 9, 0, 0, 0, 0, 1},
            {1, 1, 1, 1, 1, 1, 1, 1, 1, 9}, {1, 1, 1, 1, 1, 1, 1, 1, 1, 8}, {5, 0, 0, 0, 0, 0, 0, 0, 0, 5}};
        for (int[] weighs : many) {
            int[] want = new int[10];
            for (int p = 0; p < 10; p++) {
                for (int set = 0; set < 1024; set++) {
                    int in = 0;
                    int all = 0;
                    for (int q = 0; q < 10; q++) {
                        in += (set >> q & 1) * weighs[q];
                        all += weighs[q];
                    }
                    want[p] += (set >> p & 1) == 0 && 2 * in <= all && 2 * (in + weighs[p]) > all ? 1 : 0;
                }
            }
            powers(weighs, want);
        }
        powers(new int[] {5, 0, 0, 0, 0, 0, 0, 0, 0, 0}, 512, 0, 0, 0, 0, 0, 0, 0, 0, 0);
    }

    private static void stands(ElderTurn x, int t, int... frail) {
        BigInteger up = BigInteger.ONE;
        BigInteger low = BigInteger.ONE;
        for (int i = 0; i < t; i++) {
            up = up.multiply(BigInteger.valueOf(100 - frail[i]));
            low = low.multiply(BigInteger.valueOf(100));
        }
        BigInteger common = up.gcd(low);
        yes(x, "stands(" + t + ", false)", x.stands(t, false), up.divide(common).longValueExact());
        yes(x, "stands(" + t + ", true)", x.stands(t, true), low.divide(common).longValueExact());
    }

    private static void standsInLowestTerms() {
        promise = "STANDS: as a fraction, in lowest terms (0 by 1)";
        for (int frail = 0; frail <= 100; frail++) {
            ElderTurn x = Texts.of(head(8, "round", 0) + ";person a plain branch left age 1 strong 9 weighs 0 frail " + frail
                    + ";person b plain branch left age 1 strong 9 weighs 0 frail " + (100 - frail)
                    + ";person c plain branch left age 1 strong 9 weighs 0 frail " + frail * frail % 101);
            for (int t = 0; t <= 8; t++) {
                int[] all = {frail, 100 - frail, frail * frail % 101};
                int[] years = new int[8];
                for (int i = 0; i < 8; i++) {
                    years[i] = all[i % 3];
                }
                stands(x, t, years);
            }
        }
        ElderTurn zero = Texts.of(head(8, "round", 0) + ";person a plain branch left age 1 strong 9 weighs 0 frail 100");
        for (int t = 0; t <= 8; t++) {
            yes(zero, "stands(" + t + ", false)", zero.stands(t, false), t == 0 ? 1 : 0);
            yes(zero, "stands(" + t + ", true)", zero.stands(t, true), 1);
        }
        ElderTurn sure = Texts.of(head(8, "round", 0) + ";person a plain branch left age 1 strong 9 weighs 0 frail 0");
        yes(sure, "stands(8, false)", sure.stands(8, false), 1);
        yes(sure, "stands(8, true)", sure.stands(8, true), 1);
        ElderTurn least = Texts.of(head(24, "round", 0) + ";person a plain branch left age 1 strong 9 weighs 0 frail 99");
        yes(least, "stands(8, false)", least.stands(8, false), 1);
        yes(least, "stands(8, true)", least.stands(8, true), 10000000000000000L);
        no(least, "stands(9, true)", least.stands(9, true), 2);
    }

    private static void standsOfYearsWithoutElder() {
        promise = "STANDS: of each ELDER; t 0 .. 8, no more than years";
        ElderTurn x = Texts.of(head(6, "round", 0) + ";person a plain branch left age 1 strong 1 weighs 0 frail 50"
                + ";person s soldier branch left age 26 strong 9 weighs 0 frail 20");
        elders(x, 0, -2, 1, 1, -2, -2);
        int[] low = {1, 2, 2, 5, 25, 25, 25};
        int[] up = {1, 1, 1, 2, 8, 8, 8};
        for (int t = 0; t <= 6; t++) {
            yes(x, "stands(" + t + ", false)", x.stands(t, false), up[t]);
            yes(x, "stands(" + t + ", true)", x.stands(t, true), low[t]);
        }
        no(x, "stands(7, false)", x.stands(7, false), 2);
        no(x, "stands(8, true)", x.stands(8, true), 2);
        // Who bought a turn bears it.
        x.buy(0, 0, 1, 1);
        yes(x, "by s, of 20", x.stands(1, true), 5);
        for (int years = 4; years <= 9; years++) {
            ElderTurn y = Texts.of(head(years, "round", 0) + plain("a", 1));
            yes(y, "stands of all years, or 8", y.stands(Math.min(8, years), true), 1);
            no(y, "one more", y.stands(Math.min(8, years) + 1, true), 2);
        }
    }

    private static void meanRound() {
        promise = "MEAN: over n seeds, one by one from one on, round";
        ElderTurn x = Texts.of(head(5, "eldest", 0) + names(4));
        int[][] turns = new int[65537][];
        for (int from : new int[] {0, 1, 65486, 65487, 65488, 65500, 65535, 65536}) {
            for (int n : new int[] {1, 2, 49, 50}) {
                int[] want = new int[4];
                for (int i = 0; i < n; i++) {
                    int v = (from + i) % 65537;
                    if (turns[v] == null) {
                        turns[v] = new int[4];
                        for (int who : YearEdgesTest.lots(4, v, 5)) {
                            turns[v][who]++;
                        }
                    }
                    for (int p = 0; p < 4; p++) {
                        want[p] += turns[v][p];
                    }
                }
                for (int p = 0; p < 4; p++) {
                    yes(x, "mean(" + p + ", " + from + ", " + n + ")", x.mean(p, from, n), want[p]);
                }
            }
        }
        yes(x, "SEED stays", x.size(9), 0);
        ElderTurn always = Texts.of(head(9, "eldest", 0) + plain("a", 1));
        yes(always, "alone, each year", always.mean(0, 65536, 50), 450);
        ElderTurn never = Texts.of(head(24, "eldest", 0) + plain("a", 1) + plain("b", 1) + ";dies b 0");
        yes(never, "dead", never.mean(1, 0, 50), 0);
        yes(never, "nine turns, then dead", never.mean(0, 0, 50), 450);
    }
}
