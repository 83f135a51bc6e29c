import java.lang.reflect.Constructor;
import java.lang.reflect.Field;
import java.lang.reflect.Method;
import java.lang.reflect.Modifier;
import java.util.Set;
import java.util.TreeSet;

/** Promise by promise: ordinary inputs, the edges that the document names, and wrong inputs. */
final class PromiseTest extends Checks {
    public static void main(String[] args) {
        face();
        newObject();
        feed();
        family();
        faultsOfForm();
        faultsOfNames();
        faultsOfBounds();
        faultsOfRoom();
        faultAndWhere();
        personPlanSecret();
        elderByRound();
        elderByAge();
        elderByLot();
        elderByVote();
        elderOfTwins();
        elderBought();
        emptyThereCan();
        ageTurnsStrength();
        knowsBoxKept();
        harms();
        purse();
        firstLast();
        fairAndDeaths();
        soonestKnow();
        byLawBestLaw();
        rows();
        chain();
        trades();
        fitsAndSeeds();
        power();
        stands();
        mean();
        buy();
        death();
        law();
        seed();
        undo();
        marks();
        led();
        size();
        trouble();
        nothingIsLeftOver();
        allRoomUsed();
        end();
    }

    // ---- the face and promises 1 to 5

    private static void face() {
        promise = "the face";
        Set<String> names = new TreeSet<>();
        for (Method m : ElderTurn.class.getDeclaredMethods()) {
            if (!Modifier.isPrivate(m.getModifiers()) && !m.isSynthetic()) {
                due(m.getName() + " is public", Modifier.isPublic(m.getModifiers()), true);
                names.add(m.getName());
            }
        }
        for (Method m : ElderTurn.class.getDeclaredMethods()) {
            if (Modifier.isPrivate(m.getModifiers())) {
                due(m.getName() + " is no public name", names.contains(m.getName()), false);
            }
        }
        String all = "feed family fault where person plan secret elder empty there can age turnsOf strength knows box"
                + " kept harm harmAll harmOf purse first last fair deaths soonest know byLaw bestLaw row rowAt chain"
                + " trade bestTrade fits seeds firstSeed power stands mean buy death law seed undo mark back led size"
                + " trouble";
        due("the names of the methods", names.equals(new TreeSet<>(java.util.List.of(all.split(" ")))), true);
        for (Field f : ElderTurn.class.getDeclaredFields()) {
            due(f.getName() + " is private", Modifier.isPrivate(f.getModifiers()), !f.getName().equals("NONE"));
        }
        due("constructors", ElderTurn.class.getDeclaredConstructors().length, 1);
        for (Constructor<?> c : ElderTurn.class.getDeclaredConstructors()) {
            due("the constructor is public", Modifier.isPublic(c.getModifiers()), true);
        }
        due("the class is final", Modifier.isFinal(ElderTurn.class.getModifiers()), true);
        due("NONE", ElderTurn.NONE, -1);
    }

    private static void newObject() {
        promise = "1 A new object";
        ElderTurn x = new ElderTurn();
        due("trouble()", x.trouble(), 0);
        due("fault()", x.fault(), 0);
        due("where()", x.where(), -1);
        for (int what = 0; what <= 12; what++) {
            due("size(" + what + ")", x.size(what), 0);
        }
        no(x, "person", x.person(0, 0), 1);
        no(x, "plan", x.plan(0, 0), 1);
        no(x, "secret", x.secret(0), 1);
        no(x, "elder", x.elder(0), 1);
        no(x, "empty", x.empty(0), 1);
        no(x, "there", x.there(0), 1);
        no(x, "can", x.can(0), 1);
        no(x, "age", x.age(0, 0), 1);
        no(x, "turnsOf", x.turnsOf(0, 0), 1);
        no(x, "strength", x.strength(0, 0), 1);
        no(x, "knows", x.knows(0, 0), 1);
        no(x, "box", x.box(0), 1);
        no(x, "kept", x.kept(0, 0), 1);
        no(x, "harm", x.harm(0), 1);
        no(x, "harmAll", x.harmAll(), 1);
        no(x, "harmOf", x.harmOf(0), 1);
        no(x, "purse", x.purse(0), -10000, 1);
        no(x, "first", x.first(0), 1);
        no(x, "last", x.last(0), 1);
        no(x, "fair", x.fair(), 1);
        no(x, "deaths", x.deaths(), 1);
        no(x, "soonest", x.soonest(0, 0), 1);
        no(x, "know", x.know(0), 1);
        no(x, "byLaw", x.byLaw(0, 0), 1);
        no(x, "bestLaw", x.bestLaw(0), 1);
        no(x, "row", x.row(1), 1);
        no(x, "row by a wrong number", x.row(0), 1);
        no(x, "rowAt", x.rowAt(1, 0), 1);
        no(x, "chain", x.chain(0, 0), 1);
        no(x, "trade", x.trade(0, 1), -10000, 1);
        no(x, "bestTrade", x.bestTrade(), 1);
        no(x, "fits", x.fits(), 1);
        no(x, "seeds", x.seeds(1), 1);
        no(x, "firstSeed", x.firstSeed(1), 1);
        no(x, "power", x.power(0), 1);
        no(x, "stands", x.stands(0, false), 1);
        no(x, "mean", x.mean(0, 0, 1), 1);
        no(x, "buy", x.buy(0, 0, 1, 0), 1);
        no(x, "death", x.death(0, 0), 1);
        no(x, "law", x.law(1), 1);
        no(x, "seed", x.seed(1), 1);
        no(x, "undo", x.undo(), 6);
        no(x, "mark", x.mark(), 1);
        no(x, "back", x.back(0), 1);
        due("led", led(x, 0), -99);
        due("trouble stays", x.trouble(), 1);
    }

    private static void feed() {
        promise = "2 feed";
        ElderTurn x = new ElderTurn();
        x.fair();
        for (int i = 1; i <= 55; i++) {
            due("feed " + i, x.feed(-1, 0, 1, HIGH, LOW), 20 * i);
        }
        due("feed 56", x.feed(1, 1, 1, 1, 1), -1);
        due("nothing came", x.size(12), 1100);
        due("feed is no call that may be refused", x.trouble(), 1);
        no(x, "family(1100)", x.family(1100), 4);
        due("where", x.where(), 0);
        due("there is room again", x.feed(1, 1, 1, 1, 1), 20);
        ElderTurn y = new ElderTurn();
        int f = 'f' << 24 | 'a' << 16 | 'm' << 8 | 'i';
        int ly = 'l' << 24 | 'y' << 16 | '!' << 8 | '?';
        y.feed(f, ly, 0, 0, 0);
        y.family(20);
        due("the highest byte comes first: family is read, the ! isn't", y.where(), 6);
        ElderTurn z = new ElderTurn();
        z.feed(f, 0xE9202020 | 0, 0, 0, 0);
        z.family(8);
        due("a byte above 127 begins no token; fami begins no line", z.where(), 0);
        ElderTurn full = new ElderTurn();
        StringBuilder text = new StringBuilder(head(4, "lot", 0) + plain("a", 1));
        while (text.length() < 1100) {
            text.append(' ');
        }
        yes(full, "a text of 1,100 bytes", Texts.family(full, text.toString()), 1);
    }

    private static void family() {
        promise = "3 family";
        ElderTurn x = new ElderTurn();
        String text = head(5, "vote", 7) + THREE;
        Texts.tape(x, text.getBytes());
        int taped = x.size(12);
        no(x, "family(-1)", x.family(-1), 2);
        no(x, "family(LOW)", x.family(LOW), 2);
        no(x, "one byte too many", x.family(taped + 1), 2);
        no(x, "family(HIGH)", x.family(HIGH), 2);
        due("the tape stays", x.size(12), taped);
        due("where, refused by 2", x.where(), -1);
        yes(x, "family", x.family(taped), 3);
        due("the tape is empty", x.size(12), 0);
        due("years", x.size(0), 5);
        x.seed(9);
        x.law(0);
        x.mark();
        Texts.tape(x, "family years 9".getBytes());
        no(x, "a faulty text", x.family(14), 4);
        due("the tape is empty then too", x.size(12), 0);
        due("the family stays: years", x.size(0), 5);
        due("the family stays: law", x.size(1), 0);
        due("the family stays: seed", x.size(9), 9);
        due("the family stays: acts", x.size(10), 1);
        due("the family stays: marks", x.size(11), 1);
        yes(x, "the family stays: elder", x.elder(0), 0);
        yes(x, "another family", Texts.family(x, head(8, "lot", 1) + plain("z", 3)), 1);
        due("law", x.size(1), 3);
        due("seed 0", x.size(9), 0);
        due("nothing to undo", x.size(10), 0);
        due("no marks", x.size(11), 0);
        no(x, "undo", x.undo(), 6);
        no(x, "back", x.back(0), 1);
        due("only the new one is asked for its elders", x.elder(7), 0);
        Texts.tape(x, (head(4, "lot", 1) + plain("z", 3) + "rubbish !").getBytes());
        yes(x, "the first n bytes alone", x.family((head(4, "lot", 1) + plain("z", 3)).length()), 1);
        due("the tape is empty", x.size(12), 0);
        buysGoWithTheFamily();
    }

    private static void buysGoWithTheFamily() {
        ElderTurn x = Texts.of(head(4, "round", 0) + THREE);
        x.buy(0, 0, 1, 5);
        x.death(2, 1);
        Texts.family(x, head(4, "round", 0) + THREE);
        due("what was bought by acts is gone", x.size(5), 0);
        elders(x, 0, 1, 2, 0);
        yes(x, "whom an act let die lives", x.person(2, 6), -2);
    }

    private static void faultsOfForm() {
        promise = "3, 4, 5 FORM";
        fault("", 1, 0);
        fault("   ", 1, 3);
        fault(";", 1, 0);
        fault("  odd", 1, 2);
        fault("families years", 1, 0);
        fault("7", 1, 0);
        fault("family", 1, 6);
        fault("family  ", 1, 8);
        fault("family year 5", 1, 7);
        fault("family years lot", 1, 13);
        fault("family years 5 law odd", 1, 19);
        fault("family years 5 law 5", 1, 19);
        fault("family years 5 law lot fare", 1, 27);
        fault("family years 5 law lot fare 0 0", 1, 30);
        fault("family years 5 law lot fare 0 ;", 1, 31);
        fault("family years 5 law lot fare 0 ;;", 1, 31);
        fault("family years 5 law lot fare 0 ! ;", 1, 30);
        fault("Family", 1, 0);
        fault("\u00e9", 1, 0);
        fault("family\u0000years 5", 1, 6);
        fault("family\nyears 5", 1, 6);
        fault("family years 0005", 1, 13);
        fault("family years 99999999999", 1, 13);
        fault(head(5, "lot", 0) + ";person abcdefghi plain", 1, 37);
        fault(head(5, "lot", 0) + ";person a plain branch up", 1, 52);
        fault(head(5, "lot", 0) + ";person a odd", 1, 39);
        fault(head(5, "lot", 0) + ";person a plain branch left old", 1, 57);
        fault(head(5, "lot", 0) + ";person 5", 1, 37);
        for (String word : "family person plan dies buys secret hides diary not".split(" ")) {
            fault(head(5, "lot", 0) + ";person " + word, 1, 37);
            fault(head(5, "lot", 0) + THREE + ";dies " + word, 1, 35 + THREE.length());
        }
        whole("  family   years 4 law round fare 0;" + plain("a", 1).substring(1) + "  ", 1);
        whole("family years4law round fare0;person a plain branch left age001strong 1weighs 0frail 000", 1);
        whole(head(4, "lot", 0) + plain("abcdefgh", 1) + plain("age", 2) + plain("lot", 3) + plain("years", 4), 4);
        whole(head(4, "lot", 0) + plain("a", 1) + ";dies a 3;diary 3 a;not 3 a;plan a 0 to 0 harm 1", 1);
    }

    private static void faultsOfNames() {
        promise = "3, 4, 5 names";
        String known = head(5, "lot", 0) + plain("a", 1) + plain("b", 1) + ";secret s a";
        int at = known.length();
        fault(known + ";plan x 0", 2, at + 6);
        fault(known + ";plan s 0", 2, at + 6);
        fault(known + ";dies x", 2, at + 6);
        fault(known + ";buys 0 x", 2, at + 8);
        fault(known + ";buys 0 a s", 2, at + 10);
        fault(known + ";secret t t", 2, at + 10);
        fault(known + ";secret t s", 2, at + 10);
        fault(known + ";hides s", 2, at + 7);
        fault(known + ";hides a b", 2, at + 9);
        fault(known + ";hides a s s", 2, at + 11);
        fault(known + ";hides a s x", 2, at + 11);
        fault(known + ";diary 0 s", 2, at + 9);
        fault(known + ";not 0 x", 2, at + 7);
        fault(known + ";person a", 3, at + 8);
        fault(known + ";person s", 3, at + 8);
        fault(known + ";secret s", 3, at + 8);
        fault(known + ";secret b", 3, at + 8);
        fault(known + ";dies a 1;dies a", 3, at + 15);
        fault(known + ";buys 0 b b", 3, at + 10);
        fault(known + ";hides b s b", 3, at + 11);
        fault(known + ";hides b s a;hides b s a", 3, at + 23);
        fault(known + ";family", 3, at + 1);
        fault(known + ";family years 99", 3, at + 1);
        fault("person a", 6, 0);
        fault("  not 3", 6, 2);
        fault("plan", 6, 0);
        fault(head(5, "lot", 0), 6, 29);
        fault(head(5, "lot", 0) + "  ", 6, 31);
        whole(known + ";hides b s a;hides a s b;secret t a;hides a t b;dies a 1;dies b 1", 2);
    }

    private static void faultsOfBounds() {
        promise = "3, 4, 5 bounds";
        fault("family years 3", 4, 13);
        fault("family years 25", 4, 13);
        fault("family years 5 law lot fare 100", 4, 28);
        String known = head(5, "lot", 0) + plain("a", 1) + plain("b", 1) + ";person c plain branch left ";
        int at = known.length();
        fault(known + "age 91", 4, at + 4);
        fault(known + "born 0", 4, at + 5);
        fault(known + "born 5", 4, at + 5);
        fault(known + "age 0 strong 0", 4, at + 13);
        fault(known + "age 0 strong 10", 4, at + 13);
        fault(known + "age 0 strong 1 weighs 10", 4, at + 22);
        fault(known + "age 0 strong 1 weighs 0 frail 101", 4, at + 30);
        whole(known + "age 90 strong 9 weighs 9 frail 100", 3);
        whole(known + "born 4 strong 1 weighs 0 frail 0", 3);
        String both = head(5, "lot", 0) + plain("a", 1) + plain("b", 1);
        int then = both.length();
        fault(both + ";plan a 5", 4, then + 8);
        fault(both + ";plan a 3 to 2", 4, then + 13);
        fault(both + ";plan a 3 to 5", 4, then + 13);
        fault(both + ";plan a 3 to 3 harm 0", 4, then + 20);
        fault(both + ";plan a 3 to 3 harm 100", 4, then + 20);
        fault(both + ";dies a 5", 4, then + 8);
        fault(both + ";buys 5", 4, then + 6);
        fault(both + ";buys 4 a b price 100", 4, then + 18);
        fault(both + ";diary 5", 4, then + 7);
        fault(both + ";not 5", 4, then + 5);
        whole(both + ";plan a 4 to 4 harm 99;dies a 4;buys 4 a b price 99;diary 4 a;not 4 a", 2);
        whole(head(24, "lot", 99) + plain("a", 1) + ";dies a 23", 1);
    }

    private static void faultsOfRoom() {
        promise = "3, 4, 5 room";
        StringBuilder people = new StringBuilder(head(5, "lot", 0));
        for (int i = 0; i < 10; i++) {
            people.append(plain("p" + (char) ('a' + i), i));
        }
        whole(people.toString(), 10);
        fault(people + ";person", 5, people.length() + 1);
        fault(people + ";person pa !", 5, people.length() + 1);
        String known = head(5, "lot", 0) + plain("a", 1) + plain("b", 1) + plain("c", 1) + ";secret s a;secret t a";
        room(known, ";plan a 0 to 0 harm 1", 12, ";plan");
        room(known, ";buys 0 a b price 1", 8, ";buys x");
        room(known, ";diary 0 a", 8, ";not");
        room(known, ";not 0 a", 8, ";diary");
        String hides = ";hides a s b;hides a s c;hides b s a;hides b s c;hides c s a;hides c s b;hides a t b";
        whole(known + hides + ";hides a t c", 3);
        fault(known + hides + ";hides a t c;hides a t c", 5, known.length() + hides.length() + 13);
        String secrets = ";secret u a;secret v a;secret w a;secret x a;secret y a";
        whole(known + secrets + ";secret z b", 3);
        fault(known + secrets + ";secret z b;secret a", 5, known.length() + secrets.length() + 12);
    }

    private static void room(String known, String line, int many, String more) {
        String all = known + line.repeat(many);
        whole(all, 3);
        fault(all + more, 5, all.length() + 1);
    }

    private static void faultAndWhere() {
        promise = "4 fault, 5 where";
        ElderTurn x = new ElderTurn();
        Texts.family(x, "person");
        due("fault", x.fault(), 6);
        due("where", x.where(), 0);
        due("where again: it is no call that may be refused", x.where(), 0);
        x.size(0);
        led(x, 0);
        x.feed(0, 0, 0, 0, 0);
        due("nor are size, led, feed", x.where(), 0);
        no(x, "family(99)", x.family(99), 2);
        due("fault stays", x.fault(), 6);
        due("where doesn't", x.where(), -1);
        x.family(0);
        due("fault anew", x.fault(), 1);
        due("where anew", x.where(), 0);
        x.fair();
        due("where, refused by 1", x.where(), -1);
        due("fault stays", x.fault(), 1);
        Texts.family(x, head(4, "lot", 0) + plain("a", 0));
        due("fault without one", x.fault(), 0);
        due("where without one", x.where(), -1);
    }

    // ---- promises 6 to 8

    private static void personPlanSecret() {
        promise = "6 person";
        ElderTurn x = Texts.of(FULL + ";dies b 5");
        int[][] want = {{0, 0, 40, 3, 2, 10, -2}, {3, 1, 30, 9, 1, 20, 5}, {2, 0, 50, 1, 3, 50, -2},
            {1, 1, -100, 2, 0, 0, -2}};
        for (int p = 0; p < 4; p++) {
            for (int what = 0; what < 7; what++) {
                yes(x, "person(" + p + ", " + what + ")", x.person(p, what), want[p][what]);
            }
        }
        ElderTurn keen = Texts.of(head(4, "lot", 0) + someone("a", "keen", "left", "age 0", 1));
        yes(keen, "keen", keen.person(0, 0), 4);
        yes(keen, "age 0 is born", keen.person(0, 2), 0);
        for (int bad : new int[] {-1, 4, LOW, HIGH}) {
            no(x, "person(" + bad + ", 0)", x.person(bad, 0), 1);
        }
        for (int bad : new int[] {-1, 7, LOW, HIGH}) {
            no(x, "person(0, " + bad + ")", x.person(0, bad), 1);
        }
        x.death(1, -2);
        yes(x, "dies no more", x.person(1, 6), -2);
        x.death(0, 0);
        yes(x, "dies now", x.person(0, 6), 0);
        promise = "7 plan";
        int[][] plans = {{0, 1, 2, 7}, {1, 0, 5, 3}, {2, 0, 0, 9}};
        for (int i = 0; i < 3; i++) {
            for (int what = 0; what < 4; what++) {
                yes(x, "plan(" + i + ", " + what + ")", x.plan(i, what), plans[i][what]);
            }
        }
        for (int bad : new int[] {-1, 4, LOW, HIGH}) {
            no(x, "plan(" + bad + ", 0)", x.plan(bad, 0), 1);
            no(x, "plan(0, " + bad + ")", x.plan(0, bad), 1);
        }
        no(x, "plan(3, 0)", x.plan(3, 0), 1);
        promise = "8 secret";
        yes(x, "secret(0)", x.secret(0), 0);
        yes(x, "secret(1)", x.secret(1), 2);
        for (int bad : new int[] {-1, 2, LOW, HIGH}) {
            no(x, "secret(" + bad + ")", x.secret(bad), 1);
        }
    }

    // ---- promise 9

    private static void elderByRound() {
        promise = "9 elder, round";
        elders(Texts.of(head(5, "round", 0) + THREE), 0, 1, 2, 0, 1);
        ElderTurn x = Texts.of(head(7, "round", 0) + plain("a", 1) + someone("b", "plain", "left", "age 1", 1)
                + plain("c", 1));
        elders(x, 0, 1, -2, 2, 0, 2, 0);
        elders(Texts.of(head(4, "round", 0) + someone("a", "plain", "left", "born 2", 9) + plain("b", 1)), 1, 1, 0, 1);
        elders(Texts.of(head(5, "round", 0) + plain("a", 1) + plain("b", 1) + ";dies b 3"), 0, 1, 0, 0, 0);
        ElderTurn soldier = Texts.of(head(4, "round", 0) + someone("a", "soldier", "left", "age 28", 9));
        elders(soldier, 0, 0, -2, -2);
        for (int bad : new int[] {-1, 4, LOW, HIGH}) {
            no(soldier, "elder(" + bad + ")", soldier.elder(bad), 2);
        }
    }

    private static void elderByAge() {
        promise = "9 elder, eldest and youngest";
        elders(Texts.of(head(7, "eldest", 0) + THREE), 2, 0, 1, 2, 0, 1, 2);
        elders(Texts.of(head(7, "youngest", 0) + THREE), 1, 0, 2, 1, 0, 2, 1);
        String like = plain("a", 5) + plain("b", 5) + plain("c", 5);
        elders(Texts.of(head(4, "eldest", 0) + like), 0, 1, 2, 0);
        elders(Texts.of(head(4, "youngest", 0) + like), 0, 1, 2, 0);
        String keen = plain("a", 5) + someone("b", "keen", "left", "age 5", 9);
        elders(Texts.of(head(6, "eldest", 0) + keen), 1, 0, 1, 0, 1, 0);
        elders(Texts.of(head(6, "youngest", 0) + keen), 1, 0, 1, 0, 1, 0);
        elders(Texts.of(head(6, "eldest", 0) + someone("b", "keen", "left", "age 6", 9) + plain("a", 5)), 0, 0, 1, 0,
                1, 0);
        String late = plain("a", 5) + plain("b", 4) + someone("c", "plain", "left", "born 2", 9);
        elders(Texts.of(head(7, "eldest", 0) + late), 0, 1, 2, 0, 1, 2, 0);
        elders(Texts.of(head(7, "youngest", 0) + late), 1, 0, 2, 2, 1, 0, 2);
    }

    private static void elderByLot() {
        promise = "9 elder, lot";
        // The seed goes 74, 5624, 28652, 51790.
        ElderTurn x = Texts.of(head(4, "lot", 0) + THREE);
        elders(x, 2, 0, 1, 1);
        due("the seed itself stays", x.size(9), 0);
        // From 1: 149, 11249, 57265 + 1: 149 % 3 = 2, 11249 % 2 = 1, then the one that is left.
        x.seed(1);
        elders(x, 2, 1, 0);
        // From 65,536, which is -1: 65,536 again: 65536 % 3 = 1, 65536 % 2 = 0.
        x.seed(65536);
        elders(x, 1, 0, 2, 1);
        // A keen one is alone with fewest turns; the draw is made all the same: 74, then 5624 % 3 = 2.
        ElderTurn k = Texts.of(head(4, "lot", 0) + plain("a", 1) + someone("k", "keen", "left", "age 1", 9)
                + plain("c", 1));
        elders(k, 1, 2, 0, 1);
        // A twin's second year draws nothing: 74 % 2 = 0; then 5624 % 1, then 28652 % 2 = 0.
        ElderTurn t = Texts.of(head(4, "lot", 0) + someone("t", "twin", "left", "age 1", 9) + plain("b", 1));
        elders(t, 0, 0, 1, 1);
    }

    private static void elderByVote() {
        promise = "9 elder, vote";
        String a = ";person a plain branch left age 40 strong 9 weighs 3 frail 0";
        String b = ";person b plain branch right age 30 strong 9 weighs 2 frail 0";
        String c = ";person c plain branch right age 20 strong 9 weighs 2 frail 0";
        elders(Texts.of(head(4, "vote", 0) + a + b + c), 0, 0, 0, 0);
        elders(Texts.of(head(4, "vote", 0) + a + b), 1, 1, 1, 1);
        elders(Texts.of(head(4, "vote", 0) + b + c), 0, 1, 0, 1);
        String even = ";person e plain branch right age 90 strong 9 weighs 3 frail 0";
        elders(Texts.of(head(4, "vote", 0) + a + even), 0, 0, 0, 0);
        elders(Texts.of(head(4, "vote", 0) + even + a), 0, 0, 0, 0);
        // b and c of the right stand by turns, as the left one outweighs them.
        String heavy = ";person h plain branch left age 40 strong 9 weighs 9 frail 0";
        elders(Texts.of(head(4, "vote", 0) + heavy + b + c), 1, 2, 1, 2);
        // The old soldier of the left can't stand, but votes: so do all for the right.
        String old = ";person o soldier branch left age 30 strong 9 weighs 1 frail 0";
        elders(Texts.of(head(4, "vote", 0) + old + b), 1, 1, 1, 1);
        // His vote outweighs that of the right, of whom there is one less from year 2 on.
        String young = ";person y plain branch left age 5 strong 9 weighs 0 frail 0";
        elders(Texts.of(head(4, "vote", 0) + ";person o soldier branch left age 30 strong 9 weighs 3 frail 0" + young
                + b + c + ";dies c 2"), 1, 1, 2, 2);
    }

    private static void elderOfTwins() {
        promise = "9 elder, twins";
        String t = someone("t", "twin", "left", "age 1", 9);
        elders(Texts.of(head(7, "round", 0) + t + plain("b", 1)), 0, 0, 1, 0, 0, 1, 0);
        elders(Texts.of(head(4, "round", 0) + t + plain("b", 1) + ";dies t 1"), 0, 1, 1, 1);
        ElderTurn dies = Texts.of(head(5, "round", 0) + someone("t", "twin", "left", "age 1", 1) + plain("b", 1));
        elders(dies, 0, -2, 1, 1, 1);
        // Sold in his second year: he wasn't it then; bought a turn: the next is his too.
        elders(Texts.of(head(5, "round", 0) + t + plain("b", 1) + ";buys 1 t b price 1"), 0, 1, 0, 0, 1);
        elders(Texts.of(head(5, "round", 0) + plain("b", 1) + plain("c", 1) + t + ";buys 0 b t price 1"), 2, 2, 0, 1,
                2);
        // Alone by law thrice on end, a twin's second year is only behind a year without him.
        elders(Texts.of(head(5, "eldest", 0) + t), 0, 0, 0, 0, 0);
    }

    private static void elderBought() {
        promise = "9 elder, bought";
        String abc = head(4, "round", 0) + THREE;
        elders(Texts.of(abc + ";buys 0 a c price 1"), 2, 0, 1, 2);
        elders(Texts.of(abc + ";buys 0 b c price 1"), 0, 1, 2, 0);
        elders(Texts.of(abc + ";buys 0 a b price 1;buys 0 b c price 1"), 2, 0, 1, 2);
        elders(Texts.of(abc + ";buys 0 b c price 1;buys 0 a b price 1"), 1, 2, 0, 1);
        elders(Texts.of(abc + ";dies b 0;buys 0 a b price 1"), 0, 2, 0, 2);
        ElderTurn x = Texts.of(abc + ";buys 0 b c price 1");
        x.buy(0, 0, 1, 1);
        elders(x, 1, 2, 0, 1);
        x.buy(0, 1, 2, 1);
        elders(x, 2, 0, 1, 2);
        ElderTurn old = Texts.of(head(4, "round", 0) + plain("a", 1) + someone("s", "soldier", "left", "age 29", 9)
                + ";buys 1 a s price 1;buys 0 a s price 1");
        elders(old, 1, 0, 0, 0);
        ElderTurn none = Texts.of(head(4, "round", 0) + someone("a", "plain", "left", "age 1", 1) + plain("b", 1)
                + ";buys 1 a b price 1;buys 1 b a price 1");
        elders(none, 0, -2, 1, 1);
    }

    // ---- promises 10 to 18

    private static void emptyThereCan() {
        promise = "10 empty, 11 there, 12 can";
        ElderTurn x = Texts.of(head(6, "round", 0) + someone("a", "plain", "left", "age 1", 1)
                + someone("s", "soldier", "left", "age 27", 9) + someone("c", "plain", "left", "born 2", 9)
                + ";dies c 5");
        elders(x, 0, -2, 1, 2, 2, -2);
        int[] empty = {0, 1, 0, 0, 0, 0};
        int[] there = {3, 2, 6, 6, 6, 2};
        int[] can = {3, 2, 6, 4, 4, 0};
        for (int year = 0; year < 6; year++) {
            yes(x, "empty(" + year + ")", x.empty(year), empty[year]);
            yes(x, "there(" + year + ")", x.there(year), there[year]);
            yes(x, "can(" + year + ")", x.can(year), can[year]);
        }
        for (int bad : new int[] {-1, 6, LOW, HIGH}) {
            no(x, "empty(" + bad + ")", x.empty(bad), 2);
            no(x, "there(" + bad + ")", x.there(bad), 2);
            no(x, "can(" + bad + ")", x.can(bad), 2);
        }
        ElderTurn never = Texts.of(head(4, "round", 0) + plain("a", 1)
                + someone("b", "plain", "left", "born 3", 9) + ";dies a 0;dies b 2");
        for (int year = 0; year < 4; year++) {
            yes(never, "there(" + year + ")", never.there(year), 0);
            yes(never, "elder(" + year + ")", never.elder(year), -2);
            yes(never, "empty(" + year + ")", never.empty(year), 0);
        }
    }

    private static void ageTurnsStrength() {
        promise = "13 age, 14 turnsOf, 15 strength";
        ElderTurn x = Texts.of(head(5, "eldest", 0) + someone("k", "keen", "left", "age 90", 2)
                + someone("b", "plain", "left", "born 3", 4) + ";dies b 4");
        elders(x, 0, 0, -2, 1, -2);
        int[] ages = {-2, -2, -2, 0, 1};
        int[] turns = {1, 2, 2, 2, 2};
        int[] strengths = {1, 0, 0, 0, 0};
        for (int year = 0; year < 5; year++) {
            yes(x, "age(0, " + year + ")", x.age(0, year), 90 + year);
            yes(x, "age(1, " + year + ")", x.age(1, year), ages[year]);
            yes(x, "turnsOf(0, " + year + ")", x.turnsOf(0, year), turns[year]);
            yes(x, "turnsOf(1, " + year + ")", x.turnsOf(1, year), year < 3 ? 0 : 1);
            yes(x, "strength(0, " + year + ")", x.strength(0, year), strengths[year]);
            yes(x, "strength(1, " + year + ")", x.strength(1, year), year < 3 ? 4 : 3);
        }
        for (int bad : new int[] {-1, 5, LOW, HIGH}) {
            no(x, "age(0, " + bad + ")", x.age(0, bad), 2);
            no(x, "turnsOf(0, " + bad + ")", x.turnsOf(0, bad), 2);
            no(x, "strength(0, " + bad + ")", x.strength(0, bad), 2);
            no(x, "age(" + bad + ", 0)", x.age(bad, 0), 1);
            no(x, "turnsOf(" + bad + ", 9)", x.turnsOf(bad, 9), 1);
            no(x, "strength(" + bad + ", 0)", x.strength(bad, 0), 1);
        }
        no(x, "age(2, 0)", x.age(2, 0), 1);
        no(x, "turnsOf(2, 0)", x.turnsOf(2, 0), 1);
        no(x, "strength(2, 0)", x.strength(2, 0), 1);
    }

    private static void knowsBoxKept() {
        promise = "16 knows, 17 box, 18 kept";
        // a hides s from b and c, b hides nothing; c hides s from b, and t from a.
        ElderTurn x = Texts.of(head(7, "round", 0) + plain("a", 1) + plain("b", 1) + plain("c", 1) + plain("d", 1)
                + ";secret s a;secret t c;hides a s b;hides a s c;hides d s c;hides c t a");
        elders(x, 0, 1, 2, 3, 0, 1, 2);
        int[] box = {1, 1, 3, 3, 3, 3, 3};
        int[] keptS = {6, 6, 6, 4, 4, 0, 0};
        int[] keptT = {-2, -2, 1, 0, 0, 0, 0};
        int[][] knows = {{1, 0, 2, 0}, {1, 0, 2, 0}, {1, 0, 2, 0}, {1, 0, 2, 3}, {3, 0, 2, 3}, {3, 3, 2, 3},
            {3, 3, 3, 3}};
        for (int year = 0; year < 7; year++) {
            yes(x, "box(" + year + ")", x.box(year), box[year]);
            yes(x, "kept(0, " + year + ")", x.kept(0, year), keptS[year]);
            yes(x, "kept(1, " + year + ")", x.kept(1, year), keptT[year]);
            for (int p = 0; p < 4; p++) {
                yes(x, "knows(" + p + ", " + year + ")", x.knows(p, year), knows[year][p]);
            }
        }
        for (int bad : new int[] {-1, 7, LOW, HIGH}) {
            no(x, "knows(0, " + bad + ")", x.knows(0, bad), 2);
            no(x, "box(" + bad + ")", x.box(bad), 2);
            no(x, "kept(0, " + bad + ")", x.kept(0, bad), 2);
            no(x, "knows(" + bad + ", 0)", x.knows(bad, 0), 1);
            no(x, "kept(" + bad + ", 0)", x.kept(bad, 0), 1);
        }
        no(x, "knows(4, 0)", x.knows(4, 0), 1);
        no(x, "kept(2, 9)", x.kept(2, 9), 1);
        // Who dies in it reads, but writes nothing.
        ElderTurn y = Texts.of(head(5, "round", 0) + plain("a", 1) + someone("b", "plain", "left", "age 1", 1)
                + plain("c", 1) + ";secret s a;secret t b");
        elders(y, 0, 1, -2, 2, 0);
        yes(y, "he reads", y.knows(1, 1), 3);
        yes(y, "he writes nothing", y.box(4), 1);
        yes(y, "nobody learns his own", y.knows(2, 4), 1);
    }

    // ---- promises 19 to 28

    private static void harms() {
        promise = "19 harm, 20 harmAll, 21 harmOf";
        ElderTurn x = Texts.of(head(6, "round", 0) + plain("a", 1) + plain("b", 1)
                + ";plan a 0 to 2 harm 5;plan a 2 to 5 harm 10;plan b 1 to 1 harm 99;plan b 2 to 2 harm 50");
        int[] harm = {5, 99, 15, 0, 10, 0};
        for (int year = 0; year < 6; year++) {
            yes(x, "harm(" + year + ")", x.harm(year), harm[year]);
        }
        yes(x, "harmAll()", x.harmAll(), 129);
        yes(x, "harmOf(0)", x.harmOf(0), 30);
        yes(x, "harmOf(1)", x.harmOf(1), 99);
        for (int bad : new int[] {-1, 6, LOW, HIGH}) {
            no(x, "harm(" + bad + ")", x.harm(bad), 2);
            no(x, "harmOf(" + bad + ")", x.harmOf(bad), 1);
        }
        no(x, "harmOf(2)", x.harmOf(2), 1);
        x.buy(1, 1, 0, 9);
        yes(x, "it is his whose turn it is, not his who sold it", x.harm(1), 5);
        ElderTurn dies = Texts.of(head(4, "round", 0) + someone("a", "plain", "left", "age 1", 1)
                + ";plan a 0 to 3 harm 4");
        yes(dies, "harmed in the turn in which he dies, and no more", dies.harmAll(), 4);
    }

    private static void purse() {
        promise = "22 purse";
        ElderTurn x = Texts.of(head(6, "round", 7) + someone("a", "cousin", "left", "age 1", 2) + plain("b", 1)
                + ";buys 1 b a price 40;buys 0 a b price 3");
        // Year 0: a sells to b; 1: a comes and b has nothing to sell; 2: b; 3: a, who dies; 4: empty.
        elders(x, 1, 0, 1, 0, -2, 1);
        yes(x, "purse(0)", x.purse(0), -17);
        yes(x, "purse(1)", x.purse(1), 3);
        x.buy(2, 1, 0, 50);
        elders(x, 1, 0, 0, -2, 1, 1);
        yes(x, "purse(0)", x.purse(0), -3 - 14 + 50);
        yes(x, "purse(1)", x.purse(1), 3 - 50);
        x.buy(2, 0, 1, 60);
        yes(x, "bought and sold again", x.purse(0), -3 - 14 + 50 - 60);
        for (int bad : new int[] {-1, 2, LOW, HIGH}) {
            no(x, "purse(" + bad + ")", x.purse(bad), -10000, 1);
        }
    }

    private static void firstLast() {
        promise = "23 first, 24 last";
        ElderTurn x = Texts.of(head(5, "round", 0) + THREE + someone("d", "plain", "left", "born 4", 9));
        int[] first = {0, 1, 2, -2};
        int[] last = {3, 4, 2, -2};
        for (int p = 0; p < 4; p++) {
            yes(x, "first(" + p + ")", x.first(p), first[p]);
            yes(x, "last(" + p + ")", x.last(p), last[p]);
        }
        x.law(1);
        // c, a, b, c, d
        yes(x, "first(2), year 0", x.first(2), 0);
        yes(x, "last(3), the last year", x.last(3), 4);
        ElderTurn once = Texts.of(head(4, "round", 0) + someone("a", "plain", "left", "age 1", 1) + plain("b", 1));
        yes(once, "once, in year 0", once.last(0), 0);
        due("who died in year 0", led(once, 0), 0);
        for (int bad : new int[] {-1, 4, LOW, HIGH}) {
            no(x, "first(" + bad + ")", x.first(bad), 1);
            no(x, "last(" + bad + ")", x.last(bad), 1);
        }
    }

    private static void fairAndDeaths() {
        promise = "25 fair, 26 deaths";
        fairDeaths(Texts.of(head(6, "round", 0) + THREE), 0, 0);
        fairDeaths(Texts.of(head(7, "round", 0) + THREE), 1, 0);
        // Turns as they are, not as they count for a keen one.
        fairDeaths(Texts.of(head(4, "eldest", 0) + someone("k", "keen", "left", "age 8", 9) + plain("b", 9)), 0, 0);
        // b has died in his turn, c as told: only a and the old soldier are there.
        String few = plain("a", 1) + someone("b", "plain", "left", "age 1", 1) + plain("c", 1)
                + someone("s", "soldier", "left", "age 90", 9);
        fairDeaths(Texts.of(head(6, "round", 0) + few + ";dies c 4"), 3, 1);
        fairDeaths(Texts.of(head(6, "round", 0) + few + ";dies c 4;dies s 5"), 0, 1);
        fairDeaths(Texts.of(head(4, "round", 0) + plain("a", 1) + ";dies a 3"), 0, 0);
        // Who dies in the last year isn't there behind it.
        fairDeaths(Texts.of(head(4, "round", 0) + someone("a", "plain", "left", "age 1", 4) + someone("s", "soldier", "left",
                "age 90", 9)), 0, 1);
        fairDeaths(Texts.of(head(6, "round", 0) + someone("a", "plain", "left", "age 1", 1) + someone("b", "plain", "left",
                "age 1", 1)), 0, 2);
    }

    private static void fairDeaths(ElderTurn x, int fair, int deaths) {
        yes(x, "fair()", x.fair(), fair);
        yes(x, "deaths()", x.deaths(), deaths);
    }

    private static void soonestKnow() {
        promise = "27 soonest, 28 know";
        ElderTurn x = Texts.of(head(4, "round", 0) + plain("a", 1) + plain("b", 1) + plain("c", 1)
                + someone("d", "plain", "left", "born 3", 9) + ";dies b 2;secret s b;secret t d;hides b s a");
        elders(x, 0, 1, 2, 3);
        int[] soonS = {-2, 0, 2, 3};
        int[] soonT = {-2, -2, -2, 0};
        for (int p = 0; p < 4; p++) {
            yes(x, "soonest(0, " + p + ")", x.soonest(0, p), soonS[p]);
            yes(x, "soonest(1, " + p + ")", x.soonest(1, p), soonT[p]);
        }
        yes(x, "know(0), the dead too", x.know(0), 3);
        yes(x, "know(1)", x.know(1), 1);
        ElderTurn both = Texts.of(head(4, "round", 0) + plain("a", 1) + plain("b", 1)
                + ";secret s a;secret t a;hides a t b");
        yes(both, "a knows both", both.knows(0, 0), 3);
        yes(both, "know(0)", both.know(0), 2);
        yes(both, "know(1)", both.know(1), 1);
        for (int bad : new int[] {-1, 4, LOW, HIGH}) {
            no(x, "soonest(0, " + bad + ")", x.soonest(0, bad), 1);
            no(x, "soonest(" + bad + ", 0)", x.soonest(bad, 0), 1);
            no(x, "know(" + bad + ")", x.know(bad), 1);
        }
        no(x, "soonest(2, 0)", x.soonest(2, 0), 1);
        no(x, "know(2)", x.know(2), 1);
    }

    // ---- promises 29 to 35

    private static void byLawBestLaw() {
        promise = "29 byLaw, 30 bestLaw";
        ElderTurn x = Texts.of(FULL);
        int[] want = {6, 22, 6, 15, 9};
        for (int law = 0; law < 5; law++) {
            yes(x, "byLaw(" + law + ", 0)", x.byLaw(law, 0), want[law]);
        }
        yes(x, "bestLaw(0), the first such", x.bestLaw(0), 0);
        for (int law = 0; law < 5; law++) {
            ElderTurn y = Texts.of(FULL);
            y.law(law);
            yes(x, "as by that law: harm", x.byLaw(law, 0), y.harmAll());
            yes(x, "as by that law: deaths", x.byLaw(law, 1), y.deaths());
            yes(x, "as by that law: fair", x.byLaw(law, 2), y.fair());
            int empties = 0;
            for (int year = 0; year < 6; year++) {
                empties += y.empty(year);
            }
            yes(x, "as by that law: empty years", x.byLaw(law, 3), empties);
        }
        // Round: a, b, c, a; eldest: c, a, b, c; youngest: b, a, c, b; lot: c, a, b, b; vote: as eldest.
        ElderTurn y = Texts.of(head(4, "round", 0) + THREE + ";plan c 0 to 1 harm 9;plan a 0 to 0 harm 1");
        int[] harm = {1, 9, 0, 9, 9};
        for (int law = 0; law < 5; law++) {
            yes(y, "byLaw(" + law + ", 0)", y.byLaw(law, 0), harm[law]);
        }
        yes(y, "bestLaw(0)", y.bestLaw(0), 2);
        y.seed(65536);
        yes(y, "lot from that seed: b, a, c, b", y.byLaw(3, 0), 0);
        yes(y, "bestLaw(0), the first of like ones", y.bestLaw(0), 2);
        y.death(1, 0);
        yes(y, "without b youngest begins with a", y.byLaw(2, 0), 10);
        ElderTurn dies = Texts.of(head(4, "eldest", 0) + plain("a", 1) + someone("b", "plain", "left", "age 2", 1)
                + ";dies b 1");
        yes(dies, "deaths by round", dies.byLaw(0, 1), 0);
        yes(dies, "deaths by eldest", dies.byLaw(1, 1), 1);
        yes(dies, "empty by eldest", dies.byLaw(1, 3), 1);
        yes(dies, "bestLaw(1)", dies.bestLaw(1), 0);
        yes(dies, "bestLaw(3)", dies.bestLaw(3), 0);
        // One who dies in the last year leaves no empty one.
        ElderTurn late = Texts.of(head(4, "round", 0) + someone("a", "plain", "left", "age 1", 4));
        yes(late, "deaths", late.byLaw(0, 1), 1);
        yes(late, "empty years", late.byLaw(0, 3), 0);
        yes(late, "fair", late.bestLaw(2), 0);
        for (int bad : new int[] {-1, 5, LOW, HIGH}) {
            no(x, "byLaw(" + bad + ", 0)", x.byLaw(bad, 0), 1);
            no(x, "byLaw(0, " + bad + ")", x.byLaw(0, bad), 1);
            no(x, "bestLaw(" + bad + ")", x.bestLaw(bad), 1);
        }
        no(x, "byLaw(0, 4)", x.byLaw(0, 4), 1);
        no(x, "bestLaw(4)", x.bestLaw(4), 1);
    }

    private static void rows() {
        promise = "31 row, 32 rowAt";
        // Round has a, b, c, a, b, c. With b first it has b, c, a, b, c, a, which harms nothing.
        ElderTurn x = Texts.of(head(6, "round", 0) + THREE
                + ";plan a 0 to 0 harm 4;plan b 1 to 1 harm 4;plan c 2 to 2 harm 4;plan a 4 to 4 harm 9");
        yes(x, "harm as it is", x.harmAll(), 12);
        yes(x, "row(1)", x.row(1), 0);
        row(x, 1, 1);
        // b, a would have a in year 4; b, a, a has b and c in years 3 and 4.
        row(x, 2, 1, 2);
        row(x, 3, 1, 0, 0);
        row(x, 4, 1, 0, 0, 0);
        // A twin's second year comes as it does, and so does an empty one.
        ElderTurn t = Texts.of(head(4, "round", 0) + someone("t", "twin", "left", "age 1", 9) + plain("b", 1)
                + ";plan t 1 to 1 harm 5;plan b 0 to 0 harm 9;plan b 2 to 3 harm 1");
        yes(t, "t, t, t, t", t.row(4), 5);
        row(t, 4, 0, 0, 0, 0);
        row(t, 1, 0);
        yes(t, "t, t, then b, t by round", t.row(1), 6);
        ElderTurn e = Texts.of(head(5, "round", 0) + someone("a", "plain", "left", "age 1", 1) + plain("b", 1)
                + ";plan b 0 to 1 harm 9;plan a 3 to 3 harm 50;buys 0 a b price 1;buys 1 b a price 1");
        yes(e, "a, empty, then b", e.row(2), 0);
        row(e, 2, 0, -2);
        row(e, 3, 0, -2, 1);
        // Nothing is bought in the years that are chosen, but in the others it is.
        ElderTurn s = Texts.of(head(4, "round", 0) + plain("a", 1) + plain("b", 1) + plain("c", 1)
                + ";plan b 0 to 1 harm 9;plan a 1 to 1 harm 3;buys 0 a b price 1;buys 1 b a price 1");
        yes(s, "as it is: b, c", s.harmAll(), 9);
        yes(s, "a, then b, who sells to a", s.row(1), 3);
        row(s, 1, 0);
        yes(s, "a, c", s.row(2), 0);
        row(s, 2, 0, 2);
        ElderTurn lot = Texts.of(head(4, "lot", 0) + THREE + ";plan a 1 to 1 harm 1;plan b 1 to 1 harm 1");
        // c would have it in year 1 only if the first draw, 74 % 2 = 0, found him at the head.
        yes(lot, "no draw is made in a year that is chosen", lot.row(1), 1);
        row(lot, 1, 0);
        yes(lot, "c in year 1", lot.row(2), 0);
        row(lot, 2, 0, 2);
        ElderTurn nobody = Texts.of(head(4, "round", 0) + someone("s", "soldier", "left", "age 28", 9));
        row(nobody, 4, 0, 0, -2, -2);
        for (int bad : new int[] {0, 5, -1, LOW, HIGH}) {
            no(x, "row(" + bad + ")", x.row(bad), 2);
            no(x, "rowAt(" + bad + ", 0)", x.rowAt(bad, 0), 2);
            no(x, "rowAt(" + bad + ", -1)", x.rowAt(bad, -1), 2);
        }
        for (int bad : new int[] {-1, 2, LOW, HIGH}) {
            no(x, "rowAt(2, " + bad + ")", x.rowAt(2, bad), 1);
        }
        rowsAfterActs();
    }

    private static void rowsAfterActs() {
        ElderTurn x = Texts.of(head(4, "round", 0) + plain("a", 1) + plain("b", 1) + ";plan a 0 to 3 harm 2");
        yes(x, "a, b, a, b, or b, a, b, a: the first", x.row(1), 4);
        row(x, 1, 0);
        row(x, 4, 1, 1, 1, 1);
        x.death(1, 0);
        yes(x, "a alone", x.row(1), 8);
        row(x, 4, 0, 0, 0, 0);
        x.undo();
        yes(x, "as it was", x.row(4), 0);
        row(x, 4, 1, 1, 1, 1);
        x.law(1);
        // Behind b eldest has a, b, a; behind a it has b, a, b.
        yes(x, "by another law", x.row(1), 4);
        x.buy(2, 1, 0, 1);
        yes(x, "a, b, a, b as b has nothing to sell", x.row(1), 4);
        yes(x, "b thrice, who sells nothing then, and a", x.row(3), 2);
        row(x, 3, 1, 1, 1);
    }

    private static void row(ElderTurn x, int n, int... want) {
        for (int i = 0; i < n; i++) {
            yes(x, "rowAt(" + n + ", " + i + ")", x.rowAt(n, i), want[i]);
        }
    }

    private static void chain() {
        promise = "33 chain";
        ElderTurn x = Texts.of(FULL);
        int[][] want = {{0, 4, 2, 3}, {-2, -2, 0, -2}};
        for (int s = 0; s < 2; s++) {
            for (int p = 0; p < 4; p++) {
                yes(x, "chain(" + s + ", " + p + ")", x.chain(s, p), want[s][p]);
            }
        }
        // c is told soonest by b, from whom nothing is hidden; d is born too late.
        ElderTurn y = Texts.of(head(6, "eldest", 0) + plain("a", 1) + plain("b", 1) + plain("c", 1)
                + someone("d", "plain", "left", "born 4", 9) + ";secret s a;hides a s c");
        int[] years = {0, 2, 3, -2};
        for (int p = 0; p < 4; p++) {
            yes(y, "chain(0, " + p + ")", y.chain(0, p), years[p]);
        }
        y.death(1, 1);
        yes(y, "without b", y.chain(0, 2), -2);
        y.undo();
        yes(y, "with b", y.chain(0, 2), 3);
        // A twin who tells it has his second year first.
        ElderTurn t = Texts.of(head(4, "eldest", 0) + someone("t", "twin", "left", "age 1", 9) + plain("b", 1)
                + ";secret s t;buys 0 t b price 1");
        yes(t, "chain(0, 1)", t.chain(0, 1), 3);
        for (int bad : new int[] {-1, 4, LOW, HIGH}) {
            no(x, "chain(0, " + bad + ")", x.chain(0, bad), 1);
            no(x, "chain(" + bad + ", 0)", x.chain(bad, 0), 1);
        }
        no(x, "chain(2, 0)", x.chain(2, 0), 1);
    }

    private static void trades() {
        promise = "34 trade, 35 bestTrade";
        ElderTurn x = Texts.of(head(4, "round", 0) + plain("a", 1) + plain("b", 1) + plain("c", 1)
                + ";plan a 0 to 0 harm 10;plan b 1 to 1 harm 20;plan c 0 to 0 harm 3");
        // a, b, c, a. With a and b changed: b; round behind b: c; then a for b .. which round has behind c: a, so b.
        yes(x, "as it is", x.harmAll(), 30);
        yes(x, "trade(0, 1): b, c, b, c", x.trade(0, 1), -30);
        yes(x, "trade(1, 0)", x.trade(1, 0), -30);
        yes(x, "trade(0, 2): c, c, c, c", x.trade(0, 2), 3 - 30);
        yes(x, "trade(1, 2): a, c, a, c", x.trade(1, 2), 10 - 30);
        yes(x, "bestTrade()", x.bestTrade(), 1);
        // Where the other can't be it, it stays; a twin's second year isn't the law's; what is bought stays so.
        ElderTurn y = Texts.of(head(4, "eldest", 0) + someone("t", "twin", "left", "age 9", 9)
                + someone("b", "plain", "left", "born 1", 9) + ";plan t 0 to 1 harm 10;plan b 2 to 2 harm 1");
        elders(y, 0, 0, 1, 1);
        yes(y, "as it is", y.harmAll(), 21);
        yes(y, "trade(0, 1): t, t, t, t", y.trade(0, 1), -1);
        ElderTurn z = Texts.of(head(4, "round", 0) + plain("a", 1) + plain("b", 1) + plain("c", 1)
                + ";buys 0 b c price 1;plan c 0 to 0 harm 7");
        yes(z, "a for b, who sells to c", z.trade(0, 1), 7);
        yes(z, "bestTrade(), the first of like ones", z.bestTrade(), 102);
        due("lesser and greater", z.trade(1, 2), 0);
        for (int bad : new int[] {-1, 3, LOW, HIGH}) {
            no(x, "trade(0, " + bad + ")", x.trade(0, bad), -10000, 1);
            no(x, "trade(" + bad + ", 0)", x.trade(bad, 0), -10000, 1);
        }
        no(x, "trade(2, 2)", x.trade(2, 2), -10000, 1);
        ElderTurn one = Texts.of(head(4, "round", 0) + plain("a", 1));
        no(one, "bestTrade() of one", one.bestTrade(), 6);
        ElderTurn two = Texts.of(head(4, "eldest", 0) + plain("a", 1) + plain("b", 9) + ";plan b 0 to 0 harm 5");
        yes(two, "bestTrade() of two", two.bestTrade(), 1);
        yes(two, "b first: with the other one first", two.trade(1, 0), -5);
        yes(two, "b first: with the other one first", two.trade(0, 1), -5);
        ElderTurn like = Texts.of(head(4, "round", 0) + THREE);
        yes(like, "bestTrade() without harm", like.bestTrade(), 1);
        due("bestTrade() of FULL", Texts.of(FULL).bestTrade(), 3);
    }

    // ---- promises 36 to 41

    private static void fitsAndSeeds() {
        promise = "36 fits, 37 seeds, 38 firstSeed";
        // Round: a, b, c, a; eldest: c, a, b, c; youngest: b, a, c, b; lot: c, a, b, b; vote: as eldest.
        String four = head(4, "round", 0) + THREE;
        fits(four, 31);
        fits(four + ";diary 0 a", 1);
        fits(four + ";diary 0 c", 2 + 8 + 16);
        fits(four + ";diary 0 c;not 3 c", 8);
        fits(four + ";not 0 c", 1 + 4);
        fits(four + ";not 1 a", 1);
        fits(four + ";diary 0 a;diary 0 b", 0);
        fits(four + ";diary 0 a;not 0 a", 0);
        fits(four + ";dies a 0;dies b 0;dies c 0;not 0 a", 31);
        fits(four + ";dies a 0;dies b 0;dies c 0;diary 0 a", 0);
        ElderTurn x = Texts.of(four + ";diary 0 b");
        yes(x, "seed 0", x.fits(), 4);
        x.seed(65536);
        yes(x, "seed 65,536", x.fits(), 4 + 8);
        // In year 0 the draw is (75 v + 74) % 65537 % 3: 74, 149, .., 2 each time while it stays below 65,537.
        ElderTurn c = Texts.of(four + ";diary 0 c");
        yes(c, "seeds(1)", c.seeds(1), 1);
        yes(c, "seeds(200)", c.seeds(200), 200);
        yes(c, "firstSeed(200)", c.firstSeed(200), 0);
        ElderTurn b = Texts.of(four + ";diary 0 b");
        yes(b, "seeds(200)", b.seeds(200), 0);
        yes(b, "firstSeed(200)", b.firstSeed(200), -2);
        // Year 1 is drawn of a and b: even 5624 has a, odd 11249 has b, 16874 a, ..
        ElderTurn then = Texts.of(four + ";diary 1 b");
        yes(then, "firstSeed(1)", then.firstSeed(1), -2);
        yes(then, "firstSeed(2)", then.firstSeed(2), 1);
        yes(then, "seeds(1)", then.seeds(1), 0);
        yes(then, "seeds(2)", then.seeds(2), 1);
        yes(then, "seeds(4)", then.seeds(4), 2);
        then.law(4);
        then.seed(77);
        yes(then, "by lot, whatever the law and the seed", then.seeds(4), 2);
        for (int bad : new int[] {0, -1, 201, LOW, HIGH}) {
            no(c, "seeds(" + bad + ")", c.seeds(bad), 2);
            no(c, "firstSeed(" + bad + ")", c.firstSeed(bad), 2);
        }
    }

    private static void fits(String text, int bits) {
        ElderTurn x = Texts.of(text);
        yes(x, "fits() of " + text, x.fits(), bits);
    }

    private static String voter(String name, String age, int weighs) {
        return ";person " + name + " plain branch left " + age + " strong 9 weighs " + weighs + " frail 0";
    }

    private static void power() {
        promise = "39 power";
        // 4, 3, 2, 1: half is 5. a sways what weighs 2 up to 5: c, b, c d, b d, b c.
        ElderTurn x = Texts.of(head(4, "lot", 0) + voter("a", "age 1", 4) + voter("b", "age 1", 3)
                + voter("c", "age 1", 2) + voter("d", "age 1", 1) + voter("e", "born 1", 9));
        int[] want = {5, 3, 3, 1, 0};
        for (int p = 0; p < 5; p++) {
            yes(x, "power(" + p + ")", x.power(p), want[p]);
        }
        x.death(0, 0);
        yes(x, "a isn't there", x.power(0), 0);
        // 3, 2, 1: half is 3. b sways what weighs 1 up to 3: d, c, c d; d only what weighs 3.
        yes(x, "power(1) without a", x.power(1), 3);
        yes(x, "power(3) without a", x.power(3), 1);
        x.death(0, 1);
        yes(x, "who dies in year 1 is there in year 0", x.power(0), 5);
        ElderTurn none = Texts.of(head(4, "lot", 0) + voter("a", "age 1", 0) + voter("b", "age 1", 0));
        yes(none, "no weight, no power", none.power(0), 0);
        ElderTurn even = Texts.of(head(4, "lot", 0) + voter("a", "age 1", 2) + voter("b", "age 1", 2));
        yes(even, "half isn't more than half", even.power(0), 1);
        ElderTurn alone = Texts.of(head(4, "lot", 0) + voter("a", "age 1", 1));
        yes(alone, "alone", alone.power(0), 1);
        for (int bad : new int[] {-1, 5, LOW, HIGH}) {
            no(x, "power(" + bad + ")", x.power(bad), 1);
        }
    }

    private static void stands() {
        promise = "40 stands";
        String frail = ";person a plain branch left age 1 strong 9 weighs 0 frail ";
        ElderTurn x = Texts.of(head(9, "round", 0) + frail + 1);
        long up = 1;
        long low = 1;
        for (int t = 0; t <= 8; t++) {
            yes(x, "stands(" + t + ", false)", x.stands(t, false), up);
            yes(x, "stands(" + t + ", true)", x.stands(t, true), low);
            up *= 99;
            low *= 100;
        }
        ElderTurn y = Texts.of(head(4, "round", 0) + frail + 100 + plain("b", 1) + ";dies a 1");
        yes(y, "none yet", y.stands(0, true), 1);
        yes(y, "0 by 1", y.stands(4, false), 0);
        yes(y, "0 by 1", y.stands(4, true), 1);
        ElderTurn z = Texts.of(head(6, "round", 0) + ";person a plain branch left age 1 strong 1 weighs 0 frail 40"
                + ";person b plain branch left age 1 strong 9 weighs 0 frail 50");
        // a: 3 by 5; year 1 is empty; b: 1 by 2.
        long[][] want = {{1, 1}, {3, 5}, {3, 5}, {3, 10}, {3, 20}, {3, 40}, {3, 80}};
        for (int t = 0; t <= 6; t++) {
            yes(z, "stands(" + t + ", false)", z.stands(t, false), want[t][0]);
            yes(z, "stands(" + t + ", true)", z.stands(t, true), want[t][1]);
        }
        no(z, "more than years", z.stands(7, false), 2);
        for (int bad : new int[] {-1, 9, LOW, HIGH}) {
            no(x, "stands(" + bad + ", true)", x.stands(bad, true), 2);
        }
    }

    private static void mean() {
        promise = "41 mean";
        // From 0: c, a, b, b; from 1: c, b, a and 57,265's follower; from 65,536: b, a, c, b.
        ElderTurn x = Texts.of(head(4, "round", 0) + THREE);
        yes(x, "mean(1, 0, 1)", x.mean(1, 0, 1), 2);
        yes(x, "mean(0, 0, 1)", x.mean(0, 0, 1), 1);
        yes(x, "mean(1, 65536, 1)", x.mean(1, 65536, 1), 2);
        yes(x, "mean(1, 65536, 2): 65,536 and 0", x.mean(1, 65536, 2), 4);
        yes(x, "mean(0, 65536, 2)", x.mean(0, 65536, 2), 2);
        int sum = 0;
        for (int p = 0; p < 3; p++) {
            sum += x.mean(p, 65500, 50);
        }
        due("all turns together", sum, 200);
        int byHand = 0;
        for (int v = 0; v < 50; v++) {
            x.seed(v);
            x.law(3);
            byHand += x.turnsOf(2, 3);
        }
        yes(x, "as by hand", x.mean(2, 0, 50), byHand);
        x.buy(0, 2, 0, 1);
        x.seed(0);
        yes(x, "what is bought counts", x.mean(0, 0, 1), x.turnsOf(0, 3));
        for (int bad : new int[] {-1, 65537, LOW, HIGH}) {
            no(x, "mean(0, " + bad + ", 1)", x.mean(0, bad, 1), 2);
        }
        for (int bad : new int[] {0, -1, 51, LOW, HIGH}) {
            no(x, "mean(0, 0, " + bad + ")", x.mean(0, 0, bad), 2);
        }
        for (int bad : new int[] {-1, 3, LOW, HIGH}) {
            no(x, "mean(" + bad + ", -1, 0)", x.mean(bad, -1, 0), 1);
        }
    }

    // ---- promises 42 to 48

    private static void buy() {
        promise = "42 buy";
        ElderTurn x = Texts.of(head(4, "round", 0) + THREE + ";buys 0 a b price 1");
        for (int bad : new int[] {-1, 3, LOW, HIGH}) {
            no(x, "seller " + bad, x.buy(-1, bad, 0, -1), 1);
            no(x, "buyer " + bad, x.buy(0, 0, bad, 0), 1);
        }
        no(x, "like ones", x.buy(9, 1, 1, 100), 1);
        for (int bad : new int[] {-1, 4, LOW, HIGH}) {
            no(x, "year " + bad, x.buy(bad, 0, 1, 0), 2);
        }
        for (int bad : new int[] {-1, 100, LOW, HIGH}) {
            no(x, "price " + bad, x.buy(0, 0, 1, bad), 2);
        }
        due("nothing came", x.size(5), 1);
        for (int i = 0; i < 8; i++) {
            yes(x, "buy " + i, x.buy(3, 2, i % 2, i == 0 ? 99 : 0));
        }
        due("told, and by acts", x.size(5), 9);
        no(x, "a ninth", x.buy(0, 0, 1, 0), 3);
        no(x, "a ninth of a wrong year", x.buy(4, 0, 1, 0), 2);
        due("acts", x.size(10), 8);
        elders(x, 1, 2, 0, 1);
        x.undo();
        yes(x, "room again", x.buy(1, 2, 0, 5));
        elders(x, 1, 0, 1, 0);
        yes(x, "purse(0)", x.purse(0), -1 + 5 + 99);
    }

    private static void death() {
        promise = "43 death";
        ElderTurn x = Texts.of(head(4, "round", 0) + THREE + ";dies b 2");
        for (int bad : new int[] {-1, 3, LOW, HIGH}) {
            no(x, "death(" + bad + ", 9)", x.death(bad, 9), 1);
        }
        for (int bad : new int[] {-1, -3, 4, LOW, HIGH}) {
            no(x, "death(0, " + bad + ")", x.death(0, bad), 2);
        }
        no(x, "it is so", x.death(1, 2), 5);
        no(x, "it is so", x.death(0, -2), 5);
        due("no act", x.size(10), 0);
        yes(x, "another year", x.death(1, 1));
        elders(x, 0, 2, 0, 2);
        yes(x, "none", x.death(1, -2));
        elders(x, 0, 1, 2, 0);
        yes(x, "year 0", x.death(0, 0));
        elders(x, 1, 2, 1, 2);
        yes(x, "there(0)", x.there(0), 6);
        due("acts", x.size(10), 3);
    }

    private static void law() {
        promise = "44 law";
        ElderTurn x = Texts.of(head(4, "round", 0) + THREE);
        for (int bad : new int[] {-1, 5, LOW, HIGH}) {
            no(x, "law(" + bad + ")", x.law(bad), 1);
        }
        no(x, "law(0)", x.law(0), 5);
        int[][] want = {{0, 1, 2, 0}, {2, 0, 1, 2}, {1, 0, 2, 1}, {2, 0, 1, 1}, {2, 0, 1, 2}};
        for (int law = 4; law >= 0; law--) {
            yes(x, "law(" + law + ")", x.law(law));
            due("size(1)", x.size(1), law);
            elders(x, want[law]);
            no(x, "law(" + law + ") again", x.law(law), 5);
        }
        due("acts", x.size(10), 5);
    }

    private static void seed() {
        promise = "45 seed";
        ElderTurn x = Texts.of(head(4, "lot", 0) + THREE);
        for (int bad : new int[] {-1, 65537, LOW, HIGH}) {
            no(x, "seed(" + bad + ")", x.seed(bad), 2);
        }
        due("size(9)", x.size(9), 0);
        yes(x, "seed(65536)", x.seed(65536));
        due("size(9)", x.size(9), 65536);
        elders(x, 1, 0, 2, 1);
        yes(x, "seed(65536) again", x.seed(65536));
        yes(x, "seed(0)", x.seed(0));
        elders(x, 2, 0, 1, 1);
        due("no act", x.size(10), 0);
        no(x, "undo", x.undo(), 6);
    }

    private static void undo() {
        promise = "46 undo";
        ElderTurn x = Texts.of(head(4, "round", 0) + THREE);
        x.seed(5);
        x.law(1);
        x.seed(6);
        x.death(0, 1);
        x.seed(7);
        x.buy(0, 2, 1, 8);
        elders(x, 1, 2, 2, 1);
        yes(x, "undo the buy", x.undo());
        due("seed", x.size(9), 7);
        due("bought", x.size(5), 0);
        elders(x, 2, 1, 2, 1);
        yes(x, "undo the death", x.undo());
        due("seed", x.size(9), 6);
        yes(x, "lives", x.person(0, 6), -2);
        yes(x, "undo the law", x.undo());
        due("seed", x.size(9), 5);
        due("law", x.size(1), 0);
        elders(x, 0, 1, 2, 0);
        no(x, "no more", x.undo(), 6);
        for (int i = 0; i < 15; i++) {
            x.death(2, i % 2 == 0 ? i % 4 : -2);
        }
        due("12 are kept", x.size(10), 12);
        for (int i = 14; i >= 3; i--) {
            yes(x, "dies " + i, x.person(2, 6), i % 2 == 0 ? i % 4 : -2);
            yes(x, "undo " + i, x.undo());
        }
        no(x, "not the thirteenth", x.undo(), 6);
        yes(x, "as behind the third", x.person(2, 6), 2);
        x.law(4);
        no(x, "refused calls keep nothing", x.law(4), 5);
        due("one act", x.size(10), 1);
    }

    private static void marks() {
        promise = "47 mark, 48 back";
        ElderTurn x = Texts.of(head(4, "round", 0) + THREE);
        yes(x, "mark()", x.mark(), 0);
        x.seed(3);
        x.law(2);
        x.death(0, 2);
        x.buy(0, 1, 2, 9);
        yes(x, "mark()", x.mark(), 1);
        due("a mark is no act", x.size(10), 3);
        x.seed(4);
        yes(x, "mark()", x.mark(), 2);
        no(x, "a fourth", x.mark(), 3);
        due("marks", x.size(11), 3);
        for (int bad : new int[] {-1, 3, LOW, HIGH}) {
            no(x, "back(" + bad + ")", x.back(bad), 1);
        }
        due("acts stay", x.size(10), 3);
        yes(x, "back(0)", x.back(0));
        due("law", x.size(1), 0);
        due("seed", x.size(9), 0);
        due("bought", x.size(5), 0);
        yes(x, "lives", x.person(0, 6), -2);
        elders(x, 0, 1, 2, 0);
        due("nothing can be undone", x.size(10), 0);
        no(x, "undo", x.undo(), 6);
        due("all marks stay", x.size(11), 3);
        x.law(4);
        yes(x, "back(1)", x.back(1));
        due("law", x.size(1), 2);
        due("seed", x.size(9), 3);
        due("bought", x.size(5), 1);
        yes(x, "dies", x.person(0, 6), 2);
        yes(x, "purse(1)", x.purse(1), -9);
        yes(x, "back(2)", x.back(2));
        due("seed", x.size(9), 4);
        x.law(0);
        yes(x, "an act behind it can be undone", x.undo());
        due("law", x.size(1), 2);
        yes(x, "the mark is as it was", x.back(1));
        due("law", x.size(1), 2);
        no(x, "still no room", x.mark(), 3);
    }

    // ---- promises 49 to 51

    private static void led() {
        promise = "49 led";
        ElderTurn x = Texts.of(head(8, "eldest", 0) + someone("a", "plain", "left", "age 1", 1)
                + someone("b", "plain", "left", "age 5", 2) + someone("c", "plain", "left", "age 3", 1)
                + someone("d", "plain", "left", "age 0", 9));
        // b, c (dies), -, a (dies), -, d, b (dies), -
        elders(x, 1, 2, -2, 0, -2, 3, 1, -2);
        due("led(0)", led(x, 0), 2);
        due("led(1)", led(x, 1), 0);
        due("led(2)", led(x, 2), 1);
        x.elder(99);
        for (int bad : new int[] {-1, 3, LOW, HIGH}) {
            due("led(" + bad + ")", led(x, bad), -99);
        }
        due("led leaves trouble alone", x.trouble(), 2);
        ElderTurn late = Texts.of(head(4, "round", 0) + someone("a", "plain", "left", "age 1", 4));
        due("in the last year", led(late, 0), 0);
        ElderTurn none = Texts.of(head(4, "round", 0) + THREE + ";dies a 1");
        due("who is told to die doesn't die in it", led(none, 0), -99);
    }

    private static void size() {
        promise = "50 size";
        ElderTurn x = Texts.of(FULL + ";buys 0 a b price 3");
        x.buy(1, 0, 1, 2);
        x.law(4);
        x.seed(12);
        x.mark();
        x.feed(0, 0, 0, 0, 0);
        int[] want = {6, 4, 5, 4, 3, 2, 2, 1, 2, 12, 2, 1, 20};
        for (int what = 0; what < want.length; what++) {
            due("size(" + what + ")", x.size(what), want[what]);
        }
        x.elder(-1);
        for (int bad : new int[] {-1, 13, LOW, HIGH}) {
            due("size(" + bad + ")", x.size(bad), -1);
        }
        due("size leaves trouble alone", x.trouble(), 2);
    }

    private static void trouble() {
        promise = "51 trouble";
        ElderTurn x = Texts.of(FULL);
        due("a family", x.trouble(), 0);
        x.person(9, 9);
        due("there is none such", x.trouble(), 1);
        due("asked again", x.trouble(), 1);
        x.fault();
        x.where();
        x.size(0);
        led(x, 0);
        x.feed(1, 2, 3, 4, 5);
        due("calls that can't be refused leave it", x.trouble(), 1);
        x.harmAll();
        due("it wasn't", x.trouble(), 0);
        x.row(0);
        due("a number", x.trouble(), 2);
        x.mark();
        x.mark();
        x.mark();
        x.mark();
        due("no room", x.trouble(), 3);
        x.family(20);
        due("a fault", x.trouble(), 4);
        x.law(1);
        due("not so", x.trouble(), 5);
        x.undo();
        due("there is none", x.trouble(), 6);
        x.stands(0, true);
        due("it wasn't", x.trouble(), 0);
    }

    private static void nothingIsLeftOver() {
        promise = "nothing is left over";
        String two = head(4, "round", 0) + plain("a", 1) + plain("b", 1);
        ElderTurn x = Texts.of(two + ";secret s a;hides a s b;plan a 0 to 3 harm 9;dies a 3;diary 0 b");
        yes(x, "kept from b", x.kept(0, 3), 2);
        yes(x, "chain(0, 0)", x.chain(0, 0), 0);
        yes(x, "row(1)", x.row(1), 9);
        Texts.family(x, two + ";secret t b");
        yes(x, "kept from nobody", x.kept(0, 3), 0);
        yes(x, "chain(0, 0) is another one", x.chain(0, 0), 2);
        yes(x, "chain(0, 1)", x.chain(0, 1), 0);
        yes(x, "row(1) without plans", x.row(1), 0);
        yes(x, "harm without plans", x.harmAll(), 0);
        yes(x, "a lives", x.person(0, 6), -2);
        yes(x, "fits", x.fits(), 31);
        yes(x, "a is told in year 2", x.knows(0, 2), 1);
        x.death(0, 1);
        yes(x, "and isn't if he dies", x.knows(0, 3), 0);
        x.undo();
        yes(x, "but else he is", x.soonest(0, 0), 2);
        Texts.family(x, two + ";secret s a");
        yes(x, "what the first family hid is known to the third", x.kept(0, 3), 0);
        Texts.family(x, two + ";secret s a;hides a s b;odd");
        due("a faulty one", x.fault(), 1);
        Texts.family(x, two + ";secret s a");
        yes(x, "what a faulty text hid", x.kept(0, 3), 0);
    }

    /** The greatest family: as many of all as there is room for on the tape. */
    private static void allRoomUsed() {
        promise = "all room used";
        StringBuilder text = new StringBuilder(head(24, "eldest", 99));
        for (int p = 0; p < 10; p++) {
            char name = (char) ('a' + p);
            text.append(";person ").append(name).append(" plain branch left age ").append(9 - p)
                    .append(" strong 9 weighs 9 frail 1");
        }
        for (int s = 0; s < 8; s++) {
            text.append(";secret ").append((char) ('k' + s)).append(" j");
            text.append(";hides j ").append((char) ('k' + s)).append(" a");
        }
        for (int p = 0; p < 9; p++) {
            text.append(";plan ").append((char) ('a' + p)).append(" 0 to 3 harm 1");
        }
        ElderTurn x = Texts.of(text.toString());
        for (int year = 0; year < 24; year++) {
            yes(x, "elder(" + year + ")", x.elder(year), year % 10);
            yes(x, "there(" + year + ")", x.there(year), 1023);
            yes(x, "box(" + year + ")", x.box(year), year < 9 ? 0 : 255);
            yes(x, "kept(7, " + year + ")", x.kept(7, year), year < 9 ? -2 : year < 11 ? 1 : 0);
            yes(x, "knows(9, " + year + ")", x.knows(9, year), 255);
            yes(x, "turnsOf(9, " + year + ")", x.turnsOf(9, year), (year + 1) / 10);
        }
        yes(x, "know(7)", x.know(7), 10);
        yes(x, "soonest(7, 0)", x.soonest(7, 0), 20);
        yes(x, "last(9)", x.last(9), 19);
        yes(x, "first(9)", x.first(9), 9);
        yes(x, "harmAll()", x.harmAll(), 4);
        yes(x, "harmOf(9)", x.harmOf(9), 0);
        yes(x, "fair()", x.fair(), 1);
        yes(x, "the very last row", x.row(4), 0);
        row(x, 4, 9, 9, 9, 9);
        yes(x, "chain(7, 8)", x.chain(7, 8), 2);
        yes(x, "chain(7, 0)", x.chain(7, 0), 3);
        yes(x, "bestTrade()", x.bestTrade(), 9);
        yes(x, "trade(0, 9): a never has a turn, so that it is his each year", x.trade(0, 9), -4);
        yes(x, "power(9)", x.power(9), 126);
        due("led(0)", led(x, 0), -99);
        for (int i = 0; i < 8; i++) {
            yes(x, "buy", x.buy(23, 3, 9, 99));
        }
        yes(x, "elder(23)", x.elder(23), 9);
        yes(x, "purse(9)", x.purse(9), 99);
    }
}
