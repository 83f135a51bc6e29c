import java.util.Arrays;

/** The years, the laws, the turn, and what is found from them: the edges that Terms II and III name. */
final class YearEdgesTest extends Checks {
    public static void main(String[] args) {
        thereFromBirthToDeath();
        soldiersBelow30();
        agesByTheYears();
        emptyForOneYear();
        diesInHisLastTurn();
        twinsSecondYear();
        twinWhoCant();
        nobodyCan();
        boughtAsToldThenByActs();
        boughtOverAndOver();
        boughtByWhoCant();
        boughtInNobodysYear();
        roundAtTheBeginningAndRound();
        likeAges();
        keenOnes();
        drawsByEverySize();
        drawsOneByOne();
        votesWithoutTheOtherBranch();
        votesOfLikeWeight();
        votesOfWhoIsThere();
        plansInTheirYears();
        faresOfCousins();
        dyingHeReadsButDoesntWrite();
        keptFromFewerAndFewer();
        knownAtFirst();
        end();
    }

    private static String weighty(String name, String kind, String side, String age, int weighs) {
        return ";person " + name + " " + kind + " branch " + side + " " + age + " strong 9 weighs " + weighs + " frail 0";
    }

    private static String names(int many) {
        StringBuilder text = new StringBuilder();
        for (int p = 0; p < many; p++) {
            text.append(plain("" + (char) ('a' + p), 5));
        }
        return text.toString();
    }

    // ---- who is there

    private static void thereFromBirthToDeath() {
        promise = "told to die in a year he is THERE no more from that year on";
        for (int born = 0; born < 5; born++) {
            for (int dies = -2; dies < 5; dies++) {
                if (dies == -1) {
                    continue;
                }
                String text = head(5, "round", 0) + someone("a", "plain", "left", born == 0 ? "age 0" : "born " + born, 9);
                ElderTurn told = Texts.of(text + (dies < 0 ? "" : ";dies a " + dies));
                ElderTurn acted = Texts.of(text);
                due("death(0, " + dies + ")", acted.death(0, dies), dies >= 0);
                for (int year = 0; year < 5; year++) {
                    boolean isThere = year >= born && (dies < 0 || year < dies);
                    for (ElderTurn x : new ElderTurn[] {told, acted}) {
                        yes(x, "born " + born + " dies " + dies + " there(" + year + ")", x.there(year), isThere ? 1 : 0);
                        yes(x, "can(" + year + ")", x.can(year), isThere ? 1 : 0);
                        yes(x, "elder(" + year + ")", x.elder(year), isThere ? 0 : -2);
                        yes(x, "empty(" + year + ")", x.empty(year), 0);
                    }
                }
                yes(told, "first", told.first(0), born < 5 && (dies < 0 || dies > born) ? born : -2);
                yes(told, "last", told.last(0), dies < 0 ? 4 : dies > born ? dies - 1 : -2);
            }
        }
    }

    private static void soldiersBelow30() {
        promise = "He CAN be it: THERE, a soldier only below 30 years";
        for (int age = 0; age <= 90; age++) {
            ElderTurn x = Texts.of(head(4, "round", 0) + someone("s", "soldier", "left", "age " + age, 9));
            ElderTurn y = Texts.of(head(4, "round", 0) + someone("s", "cousin", "left", "age " + age, 9));
            for (int year = 0; year < 4; year++) {
                yes(x, "there(" + year + ") of age " + age, x.there(year), 1);
                yes(x, "can(" + year + ") of age " + age, x.can(year), age + year < 30 ? 1 : 0);
                yes(x, "elder(" + year + ") of age " + age, x.elder(year), age + year < 30 ? 0 : -2);
                yes(y, "can(" + year + ") of age " + age + ", no soldier", y.can(year), 1);
            }
        }
        // Three share the years, so that none of them dies in a turn.
        ElderTurn young = Texts.of(head(24, "round", 0) + someone("s", "soldier", "left", "age 7", 9) + names(2));
        yes(young, "29 in year 22", young.can(22), 7);
        yes(young, "30 in year 23", young.can(23), 6);
        yes(young, "and THERE all the same", young.there(23), 7);
    }

    private static void agesByTheYears() {
        promise = "AGE in a year: by the years that went by; -2 if he isn't born";
        for (int age : new int[] {0, 1, 89, 90}) {
            ElderTurn x = Texts.of(head(24, "round", 0) + someone("a", "plain", "left", "age " + age, 1));
            yes(x, "AGE in year 0", x.person(0, 2), age);
            for (int year = 0; year < 24; year++) {
                yes(x, "age(0, " + year + "), though he died", x.age(0, year), age + year);
            }
        }
        for (int born : new int[] {1, 2, 22, 23}) {
            ElderTurn x = Texts.of(head(24, "round", 0) + someone("a", "plain", "left", "born " + born, 9));
            yes(x, "-100 if he isn't born", x.person(0, 2), -100);
            for (int year = 0; year < 24; year++) {
                yes(x, "born " + born + " age(0, " + year + ")", x.age(0, year), year < born ? -2 : year - born);
            }
        }
    }

    // ---- a year

    private static void emptyForOneYear() {
        promise = "if one died in his turn in the year ahead, the chair is EMPTY";
        ElderTurn x = Texts.of(head(6, "round", 0) + someone("a", "plain", "left", "age 1", 1) + plain("b", 1)
                + someone("c", "plain", "left", "age 1", 1));
        elders(x, 0, -2, 1, 2, -2, 1);
        int[] empty = {0, 1, 0, 0, 1, 0};
        for (int year = 0; year < 6; year++) {
            yes(x, "empty(" + year + ")", x.empty(year), empty[year]);
        }
        yes(x, "who CAN be it in an EMPTY year", x.can(1), 6);
        ElderTurn last = Texts.of(head(4, "round", 0) + someone("a", "plain", "left", "age 1", 4));
        elders(last, 0, 0, 0, 0);
        yes(last, "he dies in the last year", last.deaths(), 1);
        yes(last, "no EMPTY year comes of it", last.byLaw(0, 3), 0);
        yes(last, "there(3): from the next year on he isn't", last.there(3), 1);
        yes(last, "FAIR: 0 without any", last.fair(), 0);
        ElderTurn next = Texts.of(head(5, "round", 0) + someone("a", "plain", "left", "age 1", 4));
        elders(next, 0, 0, 0, 0, -2);
        yes(next, "an EMPTY last year", next.empty(4), 1);
        yes(next, "of which there is one", next.byLaw(0, 3), 1);
    }

    private static void diesInHisLastTurn() {
        promise = "At strength 0 he DIES in it: he is THERE no more from the next year on";
        for (int strong = 1; strong <= 9; strong++) {
            ElderTurn x = Texts.of(head(12, "round", 0) + someone("a", "plain", "left", "age 1", strong));
            for (int year = 0; year < 12; year++) {
                boolean lives = year < strong;
                yes(x, "elder(" + year + ") of " + strong, x.elder(year), lives ? 0 : -2);
                yes(x, "there(" + year + ")", x.there(year), lives ? 1 : 0);
                yes(x, "empty(" + year + ")", x.empty(year), year == strong ? 1 : 0);
                yes(x, "strength(0, " + year + ")", x.strength(0, year), lives ? strong - year - 1 : 0);
                yes(x, "turnsOf(0, " + year + ")", x.turnsOf(0, year), lives ? year + 1 : strong);
            }
            due("led(0)", led(x, 0), 0);
            due("led(1)", led(x, 1), THROWN);
            yes(x, "told to die: none", x.person(0, 6), -2);
            // Told to die in the year behind his last turn, he still dies in it; a year sooner he doesn't.
            yes(x, "death", x.death(0, strong));
            yes(x, "deaths()", x.deaths(), 1);
            yes(x, "the chair is EMPTY all the same", x.empty(strong), 1);
            yes(x, "death", x.death(0, strong - 1));
            yes(x, "deaths()", x.deaths(), 0);
            yes(x, "the chair isn't EMPTY", x.empty(strong), 0);
        }
    }

    private static void twinsSecondYear() {
        promise = "a twin who was it in the year ahead, but not in the one ahead of that";
        String t = someone("t", "twin", "left", "age 1", 9);
        elders(Texts.of(head(8, "round", 0) + t + plain("b", 1)), 0, 0, 1, 0, 0, 1, 0, 0);
        elders(Texts.of(head(8, "round", 0) + plain("b", 1) + t), 0, 1, 1, 0, 1, 1, 0, 1);
        elders(Texts.of(head(8, "eldest", 0) + t + someone("u", "twin", "left", "age 1", 9)), 0, 0, 1, 1, 0, 0, 1, 1);
        // A twin comes back by law in the third year, and has no second year then.
        elders(Texts.of(head(5, "round", 0) + t + someone("b", "plain", "left", "born 3", 9)), 0, 0, 0, 1, 0);
        // Behind a year without him it is anew a first year.
        ElderTurn sold = Texts.of(head(6, "round", 0) + t + plain("b", 1) + plain("c", 1) + ";buys 1 t c price 0");
        elders(sold, 0, 2, 0, 0, 1, 2);
        // Nobody in the year ahead: it is by law.
        ElderTurn gap = Texts.of(head(6, "round", 0) + someone("x", "plain", "left", "age 1", 1) + t + plain("b", 1)
                + ";buys 1 t b price 0");
        elders(gap, 0, -2, 1, 1, 2, 1);
    }

    private static void twinWhoCant() {
        promise = "a twin .. and CAN be it; else by LAW";
        String b = plain("b", 1);
        elders(Texts.of(head(5, "round", 0) + someone("t", "twin", "left", "age 1", 9) + b + ";dies t 1"), 0, 1, 1, 1, 1);
        elders(Texts.of(head(5, "round", 0) + someone("t", "twin", "left", "age 1", 9) + b + ";dies t 2"), 0, 0, 1, 1, 1);
        elders(Texts.of(head(5, "round", 0) + someone("t", "twin", "left", "age 1", 2) + b), 0, 0, -2, 1, 1);
        elders(Texts.of(head(5, "round", 0) + someone("t", "twin", "left", "age 1", 1) + b), 0, -2, 1, 1, 1);
        elders(Texts.of(head(5, "round", 0) + someone("t", "twin", "left", "age 1", 3) + b), 0, 0, 1, 0, -2);
    }

    private static void nobodyCan() {
        promise = "nobody, if nobody CAN";
        for (int law = 0; law < 5; law++) {
            ElderTurn x = Texts.of(head(6, "vote", 0) + someone("s", "soldier", "right", "age 29", 9)
                    + someone("b", "plain", "left", "born 3", 9) + ";dies b 5;plan s 0 to 5 harm 1;secret k s");
            x.law(law);
            elders(x, 0, -2, -2, 1, 1, -2);
            for (int year = 0; year < 6; year++) {
                yes(x, "empty(" + year + ")", x.empty(year), 0);
                yes(x, "harm(" + year + ")", x.harm(year), year == 0 ? 1 : 0);
                yes(x, "box(" + year + ")", x.box(year), 1);
            }
            yes(x, "EMPTY years", x.byLaw(law, 3), 0);
            yes(x, "stands: nobody's year takes nothing", x.stands(6, true), 1);
        }
    }

    // ---- what is bought

    private static void boughtAsToldThenByActs() {
        promise = "Then what is bought in that year, as it is told, then by ACTS";
        String abcd = head(4, "round", 0) + names(4);
        elders(Texts.of(abcd + ";buys 0 a b price 1;buys 0 a c price 1"), 1, 2, 3, 0);
        elders(Texts.of(abcd + ";buys 0 a b price 1;buys 0 b c price 1;buys 0 c d price 1"), 3, 0, 1, 2);
        elders(Texts.of(abcd + ";buys 0 c d price 1;buys 0 b c price 1;buys 0 a b price 1"), 1, 2, 3, 0);
        ElderTurn x = Texts.of(abcd + ";buys 0 b c price 5");
        yes(x, "buy", x.buy(0, 0, 1, 7));
        elders(x, 1, 2, 3, 0);
        yes(x, "what is told has come ahead of it", x.purse(2), 0);
        yes(x, "buy", x.buy(0, 1, 3, 9));
        elders(x, 3, 0, 1, 2);
        int[] purses = {-7, 7 - 9, 0, 9};
        for (int p = 0; p < 4; p++) {
            yes(x, "purse(" + p + ")", x.purse(p), purses[p]);
        }
        ElderTurn years = Texts.of(abcd + ";buys 3 d a price 99;buys 0 a d price 0");
        elders(years, 3, 0, 1, 2);
        elders(Texts.of(abcd + ";buys 3 d a price 99"), 0, 1, 2, 0);
    }

    private static void boughtOverAndOver() {
        promise = "if the first PERSON is ELDER, and the second CAN be it, that one is: over and over";
        StringBuilder text = new StringBuilder(head(4, "round", 0) + names(2));
        for (int i = 0; i < 8; i++) {
            text.append(i % 2 == 0 ? ";buys 0 a b price " : ";buys 0 b a price ").append(i + 1);
        }
        ElderTurn x = Texts.of(text.toString());
        elders(x, 0, 1, 0, 1);
        yes(x, "paid and got", x.purse(0), -1 + 2 - 3 + 4 - 5 + 6 - 7 + 8);
        for (int i = 0; i < 8; i++) {
            yes(x, "buy", x.buy(0, i % 2, 1 - i % 2, 99));
            yes(x, "elder(0)", x.elder(0), 1 - i % 2);
            yes(x, "purse(0)", x.purse(0), 4 - (i % 2 == 0 ? 99 : 0));
            yes(x, "purse(1)", x.purse(1), -4 + (i % 2 == 0 ? 99 : 0));
            yes(x, "one turn in all", x.turnsOf(0, 0) + x.turnsOf(1, 0), 1);
        }
    }

    private static void boughtByWhoCant() {
        promise = "if .. the second CAN be it";
        String a = head(4, "round", 0) + plain("a", 1);
        // Not born yet, born, dead, dead from that year on, and a soldier of 29 and of 30.
        sells(a + someone("b", "plain", "left", "born 1", 9) + ";buys 0 a b price 9", 0, false);
        sells(a + someone("b", "plain", "left", "age 0", 9) + ";buys 0 a b price 9", 0, true);
        sells(a + plain("b", 1) + ";dies b 0;buys 0 a b price 9", 0, false);
        sells(a + plain("b", 1) + ";dies b 1;buys 0 a b price 9", 0, true);
        sells(a + someone("b", "soldier", "left", "age 30", 9) + ";buys 0 a b price 9", 0, false);
        sells(a + someone("b", "soldier", "left", "age 29", 9) + ";buys 0 a b price 9", 0, true);
        // Who died in his turn buys nothing later.
        ElderTurn x = Texts.of(head(4, "round", 0) + someone("b", "plain", "left", "age 1", 1) + plain("a", 1)
                + ";buys 2 a b price 9");
        elders(x, 0, -2, 1, 1);
        yes(x, "nothing paid", x.purse(1), 0);
    }

    private static void sells(String text, int year, boolean does) {
        ElderTurn x = Texts.of(text);
        yes(x, text, x.elder(year), does ? 1 : 0);
        yes(x, "paid", x.purse(0), does ? -9 : 0);
        yes(x, "got", x.purse(1), does ? 9 : 0);
    }

    private static void boughtInNobodysYear() {
        promise = "if the first PERSON is ELDER: nobody is in an EMPTY year";
        ElderTurn x = Texts.of(head(4, "round", 0) + someone("a", "plain", "left", "age 1", 1) + names(3).substring(
                plain("a", 5).length()) + ";buys 1 a b price 9;buys 1 b c price 9;buys 1 c b price 9");
        elders(x, 0, -2, 1, 2);
        for (int p = 0; p < 3; p++) {
            yes(x, "purse(" + p + ")", x.purse(p), 0);
        }
    }

    // ---- laws

    private static void roundAtTheBeginningAndRound() {
        promise = "round: the first one behind the last ELDER by numbers, round (number 0 first, at the beginning)";
        for (int many = 1; many <= 10; many++) {
            ElderTurn x = Texts.of(head(24, "round", 0) + names(many));
            for (int year = 0; year < 24 && year < 9 * many; year++) {
                if (many > 2 || year < 8) {
                    yes(x, "elder(" + year + ") of " + many, x.elder(year), year % many);
                }
            }
        }
        // 0 isn't there at the beginning; then he is, and comes behind the last one.
        elders(Texts.of(head(5, "round", 0) + someone("a", "plain", "left", "born 1", 9) + names(3).substring(
                plain("a", 5).length())), 1, 2, 0, 1, 2);
        // The last one has died, or was EMPTY's; round goes on behind him.
        elders(Texts.of(head(6, "round", 0) + names(3) + ";dies b 2"), 0, 1, 2, 0, 2, 0);
        elders(Texts.of(head(6, "round", 0) + plain("a", 5) + plain("b", 5) + someone("c", "plain", "left", "age 5", 1)), 0, 1,
                2, -2, 0, 1);
        // Behind a year of nobody: behind the last who was ELDER.
        elders(Texts.of(head(6, "round", 0) + someone("s", "soldier", "left", "age 28", 9) + someone("t", "soldier", "left",
                "age 28", 9) + someone("a", "plain", "left", "born 4", 9) + someone("b", "plain", "left", "born 4", 9)), 0, 1,
                -2, -2, 2, 3);
    }

    private static void likeAges() {
        promise = "eldest: of greatest AGE; youngest: of least; of like ones the least number";
        for (String law : new String[] {"eldest", "youngest", "vote"}) {
            ElderTurn x = Texts.of(head(24, law, 0) + names(10));
            for (int year = 0; year < 24; year++) {
                yes(x, law + " elder(" + year + ")", x.elder(year), year % 10);
            }
        }
        String edges = plain("a", 0) + plain("b", 90) + plain("c", 0) + plain("d", 90) + plain("e", 89) + plain("f", 1);
        elders(Texts.of(head(7, "eldest", 0) + edges), 1, 3, 4, 5, 0, 2, 1);
        elders(Texts.of(head(7, "youngest", 0) + edges), 0, 2, 5, 4, 1, 3, 0);
        // Born in year 1 he is younger than one of age 0, and older than one born in year 2.
        String born = plain("a", 0) + someone("b", "plain", "left", "born 2", 9) + someone("c", "plain", "left", "born 1", 9);
        elders(Texts.of(head(6, "eldest", 0) + born), 0, 2, 1, 0, 2, 1);
        elders(Texts.of(head(6, "youngest", 0) + born), 0, 2, 1, 1, 2, 0);
    }

    private static void keenOnes() {
        promise = "TURNS: by those a keen one counts as if he had one less";
        String k = someone("k", "keen", "left", "age 1", 9);
        elders(Texts.of(head(6, "eldest", 0) + plain("a", 90) + k), 1, 0, 1, 0, 1, 0);
        elders(Texts.of(head(6, "eldest", 0) + someone("k", "keen", "left", "age 9", 9) + plain("a", 1)), 0, 0, 1, 0, 1, 0);
        elders(Texts.of(head(6, "vote", 0) + plain("a", 90) + k), 1, 0, 1, 0, 1, 0);
        elders(Texts.of(head(6, "youngest", 0) + plain("a", 9) + k), 1, 1, 0, 1, 0, 1);
        elders(Texts.of(head(6, "eldest", 0) + k + someone("l", "keen", "left", "age 2", 9)), 1, 0, 1, 0, 1, 0);
        ElderTurn x = Texts.of(head(6, "eldest", 0) + plain("a", 90) + k);
        yes(x, "TURNS are told as they are", x.turnsOf(1, 5), 3);
        yes(x, "FAIR by TURNS as they are", x.fair(), 0);
        yes(x, "at first none", x.turnsOf(1, 0) - x.turnsOf(0, 0), 1);
    }

    // ---- the lot

    /** Plain people who are all there: those with fewest turns are drawn from, one by one. */
    static int[] lots(int many, int seed, int years) {
        int[] turns = new int[many];
        int[] elders = new int[years];
        long v = seed;
        for (int year = 0; year < years; year++) {
            int least = Arrays.stream(turns).min().getAsInt();
            int of = (int) Arrays.stream(turns).filter(t -> t == least).count();
            v = (75 * v + 74) % 65537;
            int ahead = (int) (v % of);
            for (int p = 0; p < many; p++) {
                if (turns[p] == least && ahead-- == 0) {
                    elders[year] = p;
                }
            }
            turns[elders[year]]++;
        }
        return elders;
    }

    private static void drawsByEverySize() {
        promise = "lot: by numbers, DRAW (SEED becomes (75 times SEED and 74) mod 65,537) mod how many";
        // 872 and 873 are on both sides of the first wrap; 65,536 becomes itself.
        int[] seeds = {0, 1, 2, 872, 873, 874, 32767, 32768, 65535, 65536};
        for (int many = 1; many <= 10; many++) {
            ElderTurn x = Texts.of(head(9, "lot", 0) + names(many));
            for (int seed : seeds) {
                yes(x, "seed(" + seed + ")", x.seed(seed));
                int[] want = lots(many, seed, 9);
                for (int year = 0; year < 9; year++) {
                    due(many + " people, seed " + seed + ", elder(" + year + ")", x.elder(year), want[year]);
                }
                due("SEED stays as it is told", x.size(9), seed);
            }
        }
    }

    private static void drawsOneByOne() {
        promise = "DRAW: one in each year that is by lot, and in no other";
        // 74, 5624, 28652, 51790, 17627, ..: of b and c behind an EMPTY year 28652 % 2 would be 0, 5624 % 2 is 0.
        ElderTurn x = Texts.of(head(6, "lot", 0) + someone("a", "plain", "left", "age 1", 1) + plain("b", 1) + plain("c", 1));
        x.seed(28);
        // 28 becomes 2174, 2174 % 3 = 2; 2174 becomes 31987 + .. : the years are held against what is drawn by hand.
        long v = 28;
        int[] drawn = new int[6];
        for (int i = 0; i < 6; i++) {
            v = (75 * v + 74) % 65537;
            drawn[i] = (int) v;
        }
        due("the first of three", x.elder(0), drawn[0] % 3);
        // Nobody CAN in years 1 and 2: no draw is made in them.
        ElderTurn gap = Texts.of(head(6, "lot", 0) + someone("s", "soldier", "left", "age 29", 9)
                + someone("a", "plain", "left", "born 3", 9) + someone("b", "plain", "left", "born 3", 9)
                + someone("c", "plain", "left", "born 3", 9));
        for (int seed = 0; seed < 20; seed++) {
            gap.seed(seed);
            long w = (75L * seed + 74) % 65537;
            w = (75 * w + 74) % 65537;
            due("seed " + seed + ": the second draw is year 3's", gap.elder(3), 1 + w % 3);
        }
        // A twin's second year: none, either; EMPTY: none.
        ElderTurn twin = Texts.of(head(6, "lot", 0) + someone("t", "twin", "left", "age 1", 9)
                + someone("a", "plain", "left", "born 2", 9) + someone("b", "plain", "left", "born 2", 9)
                + someone("c", "plain", "left", "born 2", 9));
        ElderTurn empty = Texts.of(head(6, "lot", 0) + someone("t", "plain", "left", "age 1", 1)
                + someone("a", "plain", "left", "born 1", 9) + someone("b", "plain", "left", "born 1", 9)
                + someone("c", "plain", "left", "born 1", 9));
        for (int seed = 0; seed < 20; seed++) {
            twin.seed(seed);
            empty.seed(seed);
            long w = (75L * seed + 74) % 65537;
            w = (75 * w + 74) % 65537;
            due("seed " + seed + ": behind a twin's second year", twin.elder(2), 1 + w % 3);
            due("seed " + seed + ": behind an EMPTY year", empty.elder(2), 1 + w % 3);
        }
    }

    // ---- the vote

    private static void votesWithoutTheOtherBranch() {
        promise = "vote: for that one of the other branch, if one stands, else of his own";
        for (String side : new String[] {"left", "right"}) {
            for (int weighs : new int[] {0, 9}) {
                elders(Texts.of(head(4, "vote", 0) + weighty("a", "plain", side, "age 1", weighs)
                        + weighty("b", "plain", side, "age 2", weighs)), 1, 0, 1, 0);
            }
        }
        // The other branch is there, but none of it can stand; its votes are for the one who does.
        elders(Texts.of(head(4, "vote", 0) + weighty("s", "soldier", "left", "age 30", 9)
                + weighty("b", "plain", "right", "age 2", 0)), 1, 1, 1, 1);
        // It stands until it is 30: its own vote is for b, b's for it.
        elders(Texts.of(head(4, "vote", 0) + weighty("s", "soldier", "left", "age 28", 1)
                + weighty("b", "plain", "right", "age 2", 2)), 0, 0, 1, 1);
    }

    private static void votesOfLikeWeight() {
        promise = "most votes have it, of like many the least number";
        for (int weighs : new int[] {0, 1, 9}) {
            String left = weighty("a", "plain", "left", "age 1", weighs);
            String right = weighty("b", "plain", "right", "age 1", weighs);
            elders(Texts.of(head(4, "vote", 0) + left + right), 0, 0, 0, 0);
            elders(Texts.of(head(4, "vote", 0) + right + left), 0, 0, 0, 0);
        }
        // One more for the one or the other.
        String left = weighty("a", "plain", "left", "age 1", 5);
        elders(Texts.of(head(4, "vote", 0) + left + weighty("b", "plain", "right", "age 1", 6)), 0, 0, 0, 0);
        elders(Texts.of(head(4, "vote", 0) + left + weighty("b", "plain", "right", "age 1", 4)), 1, 1, 1, 1);
        elders(Texts.of(head(4, "vote", 0) + weighty("b", "plain", "right", "age 1", 4) + left), 0, 0, 0, 0);
        elders(Texts.of(head(4, "vote", 0) + weighty("b", "plain", "right", "age 1", 6) + left), 1, 1, 1, 1);
        // Five of 9 each against one of 9: the sum counts, not how many.
        elders(Texts.of(head(4, "vote", 0) + left + weighty("b", "plain", "right", "age 1", 2)
                + weighty("c", "plain", "right", "age 1", 2)), 1, 2, 1, 2);
    }

    private static void votesOfWhoIsThere() {
        promise = "who is THERE votes, with what he weighs";
        String a = weighty("a", "plain", "left", "age 1", 5);
        String b = weighty("b", "plain", "right", "age 1", 4);
        // b has 5 votes, a has 4 and from year 2 on 6; then c dies.
        elders(Texts.of(head(6, "vote", 0) + a + b + weighty("c", "plain", "right", "born 2", 2) + ";dies c 4"), 1, 1, 0, 0, 1,
                1);
        // Soldiers of 30 vote, too.
        elders(Texts.of(head(4, "vote", 0) + a + b + weighty("s", "soldier", "right", "age 90", 2)), 0, 0, 0, 0);
        // Who died in his turn votes no more: d, of 9, had made b it.
        ElderTurn x = Texts.of(head(6, "vote", 0)
                + ";person d plain branch left age 9 strong 1 weighs 9 frail 0"
                + ";person b plain branch right age 1 strong 9 weighs 8 frail 0"
                + ";person c plain branch left age 1 strong 9 weighs 0 frail 0");
        elders(x, 1, 1, 1, 1, 1, 1);
        yes(x, "buy", x.buy(0, 1, 0, 1));
        // d takes year 0 and dies; b's 8 are for c, c's 0 for b.
        elders(x, 0, -2, 2, 2, 2, 2);
    }

    // ---- the turn

    private static void plansInTheirYears() {
        promise = "each of his plans in that year is harmed";
        for (int from = 0; from < 5; from++) {
            for (int to = from; to < 5; to++) {
                ElderTurn x = Texts.of(head(5, "round", 0) + plain("a", 1) + ";plan a " + from + " to " + to + " harm 99");
                for (int year = 0; year < 5; year++) {
                    yes(x, from + " to " + to + ": harm(" + year + ")", x.harm(year), year >= from && year <= to ? 99 : 0);
                }
                yes(x, "harmAll()", x.harmAll(), 99 * (to - from + 1));
                yes(x, "harmOf(0)", x.harmOf(0), 99 * (to - from + 1));
            }
        }
        // All twelve in one year, and the greatest harm that there is.
        ElderTurn most = Texts.of(head(24, "round", 0) + names(3) + ";plan a 0 to 23 harm 99".repeat(12));
        yes(most, "harm(0)", most.harm(0), 1188);
        yes(most, "harm(1)", most.harm(1), 0);
        yes(most, "harm(21)", most.harm(21), 1188);
        yes(most, "harmAll()", most.harmAll(), 8 * 1188);
        yes(most, "harmOf(0)", most.harmOf(0), 8 * 1188);
    }

    private static void faresOfCousins() {
        promise = "a cousin pays the fare";
        for (int fare : new int[] {0, 1, 99}) {
            for (String kind : new String[] {"plain", "soldier", "cousin", "twin", "keen"}) {
                ElderTurn x = Texts.of(head(5, "round", fare) + someone("a", kind, "left", "age 1", 3));
                // Three turns, in the last of which he dies.
                yes(x, kind + ", fare " + fare, x.purse(0), kind.equals("cousin") ? -3 * fare : 0);
            }
        }
        ElderTurn sold = Texts.of(head(4, "round", 7) + someone("a", "cousin", "left", "age 1", 9) + plain("b", 1)
                + ";buys 0 a b price 2;buys 1 b a price 0");
        // Who sells his turn pays no fare for it.
        elders(sold, 1, 0, 1, 0);
        yes(sold, "purse(0)", sold.purse(0), -2 - 14);
        yes(sold, "purse(1)", sold.purse(1), 2);
    }

    private static void dyingHeReadsButDoesntWrite() {
        promise = "At strength 0 he DIES in it .. and writes nothing. Else he writes each secret that he KNOWS";
        for (int strong = 1; strong <= 2; strong++) {
            ElderTurn x = Texts.of(head(5, "round", 0) + plain("a", 1) + someone("b", "plain", "left", "age 1", strong)
                    + plain("c", 1) + ";secret s a;secret t b;plan b 1 to 1 harm 5");
            boolean dies = strong == 1;
            yes(x, "he reads", x.knows(1, 1), 3);
            yes(x, "and is harmed", x.harm(1), 5);
            yes(x, "box(1)", x.box(1), dies ? 1 : 3);
            yes(x, "kept(1, 1)", x.kept(1, 1), dies ? -2 : 0);
            elders(x, 0, 1, dies ? -2 : 2, dies ? 2 : 0, dies ? 0 : 1);
            yes(x, "c", x.knows(2, 4), dies ? 1 : 3);
            yes(x, "know(1), the dead too", x.know(1), dies ? 1 : 3);
        }
        // A secret that lies there stays, though who wrote it is gone.
        ElderTurn y = Texts.of(head(5, "round", 0) + plain("a", 1) + plain("b", 1) + ";secret s a;dies a 1");
        yes(y, "box(4)", y.box(4), 1);
        yes(y, "b", y.soonest(0, 1), 1);
    }

    private static void keptFromFewerAndFewer() {
        promise = "if it lies there already, only from whom it was kept ahead, too";
        // a hides s from c and d; b hides it from d and a; c, who isn't told, writes nothing of it.
        ElderTurn x = Texts.of(head(8, "round", 0) + names(4) + ";secret s a;hides a s c;hides a s d;hides b s d;hides b s a");
        elders(x, 0, 1, 2, 3, 0, 1, 2, 3);
        int[] kept = {4 + 8, 8, 0, 0, 0, 0, 0, 0};
        for (int year = 0; year < 8; year++) {
            yes(x, "kept(0, " + year + ")", x.kept(0, year), kept[year]);
        }
        // In year 2 c is told, by b's note, and hides it from nobody: so d is told in year 3.
        int[] soonest = {0, 1, 2, 3};
        for (int p = 0; p < 4; p++) {
            yes(x, "soonest(0, " + p + ")", x.soonest(0, p), soonest[p]);
        }
        // Written anew by who hides it from others: from nobody more is it kept.
        ElderTurn y = Texts.of(head(8, "round", 0) + names(3) + ";secret s a;secret t b;hides a s c;hides b s c;hides c s a");
        int[] from = {4, 4, 4, 4, 4, 4, 4, 4};
        for (int year = 0; year < 8; year++) {
            yes(y, "kept(0, " + year + ")", y.kept(0, year), from[year]);
            yes(y, "kept(1, " + year + ")", y.kept(1, year), year < 1 ? -2 : 0);
            yes(y, "c", y.knows(2, year), year < 2 ? 0 : 2);
        }
        // Who is kept from it and knows it all the same writes it for all.
        ElderTurn z = Texts.of(head(4, "round", 0) + names(3) + ";secret s a;hides a s b;hides a s c");
        yes(z, "kept from both", z.kept(0, 2), 6);
        z.death(1, 1);
        yes(z, "kept from both, the dead too", z.kept(0, 3), 6);
    }

    private static void knownAtFirst() {
        promise = "secret NAME PERSON (who knows it at first)";
        ElderTurn x = Texts.of(head(4, "round", 0) + plain("a", 1) + someone("b", "plain", "left", "born 3", 9)
                + plain("c", 1) + ";secret s b;secret t c;secret u c;dies c 0");
        // b knows it though he isn't born, c though he is dead.
        for (int year = 0; year < 4; year++) {
            yes(x, "knows(0, " + year + ")", x.knows(0, year), 0);
            yes(x, "knows(1, " + year + ")", x.knows(1, year), 1);
            yes(x, "knows(2, " + year + ")", x.knows(2, year), 6);
            yes(x, "box(" + year + ")", x.box(year), year < 3 ? 0 : 1);
        }
        yes(x, "soonest(0, 1)", x.soonest(0, 1), 0);
        yes(x, "soonest(1, 2)", x.soonest(1, 2), 0);
        yes(x, "soonest(0, 0)", x.soonest(0, 0), -2);
        yes(x, "chain(0, 1)", x.chain(0, 1), 0);
        yes(x, "chain(1, 2)", x.chain(1, 2), 0);
        yes(x, "chain(0, 0): b can't write it ahead of year 3", x.chain(0, 0), -2);
        ElderTurn none = Texts.of(head(4, "round", 0) + plain("a", 1));
        for (int year = 0; year < 4; year++) {
            yes(none, "box without secrets", none.box(year), 0);
            yes(none, "knows without secrets", none.knows(0, year), 0);
        }
    }
}
