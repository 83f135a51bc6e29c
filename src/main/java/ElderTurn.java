import java.util.NoSuchElementException;

/** A family in which old age comes by turns: who is it year by year, and what follows from that. */
public final class ElderTurn {
    public static final int NONE = -1;

    private static final int NOBODY = -2;
    private static final int OPEN = -3;
    private static final int NEVER = -2;
    private static final int UNBORN_AGE = -100;
    private static final int NO_SUM = -10000;
    /** Above all that is ever counted here. */
    private static final int ENDLESS = 1000000000;

    private static final int NO_SUCH = 1;
    private static final int BAD_NUMBER = 2;
    private static final int NO_ROOM = 3;
    private static final int FAULTY = 4;
    private static final int NOT_SO = 5;
    private static final int NOTHING = 6;

    private static final int TAPE_ROOM = 1100;
    private static final int FEED_BYTES = 20;
    private static final int PEOPLE_ROOM = 10;
    private static final int PLAN_ROOM = 12;
    private static final int BUY_ROOM = 8;
    private static final int SECRET_ROOM = 8;
    private static final int HIDE_ROOM = 8;
    private static final int DIARY_ROOM = 8;
    private static final int YEAR_ROOM = 24;
    private static final int ROW_ROOM = 4;
    private static final int MOST_ROWS = PEOPLE_ROOM * PEOPLE_ROOM * PEOPLE_ROOM * PEOPLE_ROOM;
    private static final int ACT_ROOM = 12;
    private static final int MARK_ROOM = 3;

    private static final int LAWS = 5;
    private static final int ROUND = 0;
    private static final int ELDEST = 1;
    private static final int YOUNGEST = 2;
    private static final int LOT = 3;
    private static final int VOTE = 4;
    private static final int SEED_BOUND = 65537;

    private static final int SOLDIER = 1;
    private static final int COUSIN = 2;
    private static final int TWIN = 3;
    private static final int KEEN = 4;
    private static final int SOLDIER_AGES = 30;

    /** Places in the row that is told of one person. */
    private static final int KIND = 0;
    private static final int SIDE = 1;
    private static final int BORN = 2;
    private static final int STRONG = 3;
    private static final int WEIGHS = 4;
    private static final int FRAIL = 5;
    private static final int DIES = 6;
    private static final int PERSON_PARTS = 7;

    /** Places in the row that is told of one plan. */
    private static final int OWNER = 0;
    private static final int FROM = 1;
    private static final int TO = 2;
    private static final int HARM = 3;
    private static final int PLAN_PARTS = 4;

    /** Places in the row of one turn that is bought. */
    private static final int WHEN = 0;
    private static final int SELLER = 1;
    private static final int BUYER = 2;
    private static final int PRICE = 3;
    private static final int BUY_PARTS = 4;

    /** Places in the row of one diary; WHEN is shared with what is bought. */
    private static final int WHO = 1;
    private static final int IS_NOT = 2;
    private static final int DIARY_PARTS = 3;

    private static final int MEASURES = 4;
    private static final int MOST_SEEDS = 200;
    private static final int MOST_MEAN = 50;
    private static final int MOST_STANDS = 8;
    private static final int MOST_PRICE = 99;

    private final Reader reader = new Reader();
    private final World world = new World();
    private final Past past = new Past();
    private final Annals annals = new Annals(world);
    private final Run trial = new Run(world);
    private final Rows rows = new Rows(world);
    private boolean hasFamily = false;
    private int trouble = 0;

    public ElderTurn() {
    }

    // ---- the family

    public int feed(int a, int b, int c, int d, int e) {
        if (reader.taped > TAPE_ROOM - FEED_BYTES) {
            return NONE;
        }
        reader.putBytes(a);
        reader.putBytes(b);
        reader.putBytes(c);
        reader.putBytes(d);
        reader.putBytes(e);
        return reader.taped;
    }

    public int family(int n) {
        if (n < 0 || n > reader.taped) {
            return refuse(BAD_NUMBER);
        }
        if (!reader.readText(n)) {
            return refuse(FAULTY);
        }
        Family before = world.told;
        world.told = reader.told;
        reader.told = before;
        world.now.startFrom(world.told);
        past.forget();
        hasFamily = true;
        acted();
        return world.told.people;
    }

    public int fault() {
        return reader.wrong;
    }

    public int where() {
        return trouble == FAULTY ? reader.place : NONE;
    }

    // ---- as told

    public int person(int p, int what) {
        if (isNoPerson(p) || what < 0 || what >= PERSON_PARTS) {
            return refuse(NO_SUCH);
        }
        int[] of = world.told.person[p];
        if (what == BORN) {
            return grant(of[BORN] > 0 ? UNBORN_AGE : -of[BORN]);
        }
        return grant(what == DIES ? world.now.dies[p] : of[what]);
    }

    public int plan(int i, int what) {
        if (!hasFamily || i < 0 || i >= world.told.plans || what < 0 || what >= PLAN_PARTS) {
            return refuse(NO_SUCH);
        }
        return grant(world.told.plan[i][what]);
    }

    public int secret(int s) {
        return isNoSecret(s) ? refuse(NO_SUCH) : grant(world.told.knower[s]);
    }

    // ---- the years

    public int elder(int year) {
        int why = yearTrouble(year);
        return why != 0 ? refuse(why) : grant(annals.run.elders[year]);
    }

    public int empty(int year) {
        int why = yearTrouble(year);
        return why != 0 ? refuse(why) : grant(annals.empty[year]);
    }

    public int there(int year) {
        int why = yearTrouble(year);
        return why != 0 ? refuse(why) : grant(annals.there[year]);
    }

    public int can(int year) {
        int why = yearTrouble(year);
        return why != 0 ? refuse(why) : grant(annals.can[year]);
    }

    public int age(int p, int year) {
        int why = personYearTrouble(p, year);
        if (why != 0) {
            return refuse(why);
        }
        int years = year - world.told.person[p][BORN];
        return grant(years < 0 ? NEVER : years);
    }

    public int turnsOf(int p, int year) {
        int why = personYearTrouble(p, year);
        return why != 0 ? refuse(why) : grant(annals.turnsBehind(p, year));
    }

    public int strength(int p, int year) {
        int why = personYearTrouble(p, year);
        if (why != 0) {
            return refuse(why);
        }
        return grant(world.told.person[p][STRONG] - annals.turnsBehind(p, year));
    }

    public int knows(int p, int year) {
        int why = personYearTrouble(p, year);
        return why != 0 ? refuse(why) : grant(annals.knows[year * PEOPLE_ROOM + p]);
    }

    public int box(int year) {
        int why = yearTrouble(year);
        return why != 0 ? refuse(why) : grant(annals.box[year]);
    }

    public int kept(int s, int year) {
        if (isNoSecret(s)) {
            return refuse(NO_SUCH);
        }
        if (isNoYear(year)) {
            return refuse(BAD_NUMBER);
        }
        boolean lies = has(annals.box[year], s);
        return grant(lies ? annals.kept[year * SECRET_ROOM + s] : NOBODY);
    }

    // ---- all years together

    public int harm(int year) {
        int why = yearTrouble(year);
        return why != 0 ? refuse(why) : grant(annals.harm[year]);
    }

    public int harmAll() {
        return hasFamily ? grant(annals.run.harm) : refuse(NO_SUCH);
    }

    public int harmOf(int p) {
        return isNoPerson(p) ? refuse(NO_SUCH) : grant(annals.harmTo(p));
    }

    public int purse(int p) {
        if (isNoPerson(p)) {
            refuse(NO_SUCH);
            return NO_SUM;
        }
        return grant(annals.run.purse[p]);
    }

    public int first(int p) {
        return isNoPerson(p) ? refuse(NO_SUCH) : grant(annals.firstTurn(p));
    }

    public int last(int p) {
        return isNoPerson(p) ? refuse(NO_SUCH) : grant(annals.lastTurn(p));
    }

    public int fair() {
        return hasFamily ? grant(annals.run.spread()) : refuse(NO_SUCH);
    }

    public int deaths() {
        return hasFamily ? grant(annals.run.deaths) : refuse(NO_SUCH);
    }

    public int soonest(int s, int p) {
        if (isNoSecret(s) || isNoPerson(p)) {
            return refuse(NO_SUCH);
        }
        return grant(annals.firstKnowing(s, p));
    }

    public int know(int s) {
        return isNoSecret(s) ? refuse(NO_SUCH) : grant(annals.knowers(s));
    }

    // ---- other laws, rows, trades

    public int byLaw(int law, int what) {
        if (!hasFamily || isNoLaw(law) || isNoMeasure(what)) {
            return refuse(NO_SUCH);
        }
        return grant(measureByLaw(law, what));
    }

    public int bestLaw(int what) {
        if (!hasFamily || isNoMeasure(what)) {
            return refuse(NO_SUCH);
        }
        int best = 0;
        int least = measureByLaw(0, what);
        for (int law = 1; law < LAWS; law++) {
            int measure = measureByLaw(law, what);
            if (measure < least) {
                best = law;
                least = measure;
            }
        }
        return grant(best);
    }

    public int row(int n) {
        int why = rowTrouble(n);
        return why != 0 ? refuse(why) : grant(rows.find(n));
    }

    public int rowAt(int n, int i) {
        int why = rowTrouble(n);
        if (why != 0) {
            return refuse(why);
        }
        if (i < 0 || i >= n) {
            return refuse(NO_SUCH);
        }
        rows.find(n);
        return grant(rows.bestRows[n * ROW_ROOM + i]);
    }

    public int chain(int s, int p) {
        if (isNoSecret(s) || isNoPerson(p)) {
            return refuse(NO_SUCH);
        }
        rows.findChains();
        return grant(rows.chains[s * PEOPLE_ROOM + p]);
    }

    public int trade(int p, int q) {
        if (isNoPair(p, q)) {
            refuse(NO_SUCH);
            return NO_SUM;
        }
        return grant(harmOfTrade(p, q));
    }

    public int bestTrade() {
        if (!hasFamily) {
            return refuse(NO_SUCH);
        }
        int people = world.told.people;
        if (people < 2) {
            return refuse(NOTHING);
        }
        int best = NONE;
        int least = ENDLESS;
        for (int p = 0; p < people; p++) {
            for (int q = p + 1; q < people; q++) {
                int harm = harmOfTrade(p, q);
                if (harm < least) {
                    best = 100 * p + q;
                    least = harm;
                }
            }
        }
        return grant(best);
    }

    // ---- diaries, votes, chances

    public int fits() {
        if (!hasFamily) {
            return refuse(NO_SUCH);
        }
        int bits = 0;
        for (int law = 0; law < LAWS; law++) {
            if (diariesFit(law, world.now.seed)) {
                bits |= 1 << law;
            }
        }
        return grant(bits);
    }

    public int seeds(int n) {
        int why = seedsTrouble(n);
        if (why != 0) {
            return refuse(why);
        }
        int count = 0;
        for (int v = 0; v < n; v++) {
            if (diariesFit(LOT, v)) {
                count++;
            }
        }
        return grant(count);
    }

    public int firstSeed(int n) {
        int why = seedsTrouble(n);
        if (why != 0) {
            return refuse(why);
        }
        for (int v = 0; v < n; v++) {
            if (diariesFit(LOT, v)) {
                return grant(v);
            }
        }
        return grant(NEVER);
    }

    public int power(int p) {
        if (isNoPerson(p)) {
            return refuse(NO_SUCH);
        }
        int voters = world.almanac.there[0];
        return grant(has(voters, p) ? swayedSets(p, voters) : 0);
    }

    public long stands(int t, boolean lower) {
        if (!hasFamily) {
            return refuse(NO_SUCH);
        }
        if (t < 0 || t > MOST_STANDS || t > world.told.years) {
            return refuse(BAD_NUMBER);
        }
        long upper = 1;
        long under = 1;
        for (int year = 0; year < t; year++) {
            int who = annals.run.elders[year];
            if (who >= 0) {
                upper *= 100 - world.told.person[who][FRAIL];
                under *= 100;
            }
        }
        trouble = 0;
        long common = commonPart(upper, under);
        if (common == 0) {
            return 0;
        }
        return lower ? under / common : upper / common;
    }

    public int mean(int p, int seed, int n) {
        if (isNoPerson(p)) {
            return refuse(NO_SUCH);
        }
        if (isNoSeed(seed) || n < 1 || n > MOST_MEAN) {
            return refuse(BAD_NUMBER);
        }
        int turns = 0;
        for (int i = 0; i < n; i++) {
            trial.begin(LOT, (seed + i) % SEED_BOUND);
            trial.passYears();
            turns += trial.turns[p];
        }
        return grant(turns);
    }

    // ---- acts

    public boolean buy(int year, int p, int q, int price) {
        if (isNoPair(p, q)) {
            return deny(NO_SUCH);
        }
        if (isNoYear(year) || price < 0 || price > MOST_PRICE) {
            return deny(BAD_NUMBER);
        }
        if (world.now.bought >= BUY_ROOM) {
            return deny(NO_ROOM);
        }
        past.keepAct(world.now);
        world.now.addBuy(year, p, q, price);
        return acted();
    }

    public boolean death(int p, int year) {
        if (isNoPerson(p)) {
            return deny(NO_SUCH);
        }
        if (year != NEVER && isNoYear(year)) {
            return deny(BAD_NUMBER);
        }
        if (world.now.dies[p] == year) {
            return deny(NOT_SO);
        }
        past.keepAct(world.now);
        world.now.dies[p] = year;
        return acted();
    }

    public boolean law(int law) {
        if (!hasFamily || isNoLaw(law)) {
            return deny(NO_SUCH);
        }
        if (world.now.law == law) {
            return deny(NOT_SO);
        }
        past.keepAct(world.now);
        world.now.law = law;
        return acted();
    }

    public boolean seed(int v) {
        if (!hasFamily) {
            return deny(NO_SUCH);
        }
        if (isNoSeed(v)) {
            return deny(BAD_NUMBER);
        }
        world.now.seed = v;
        return acted();
    }

    public boolean undo() {
        if (!past.takeBack(world.now)) {
            return deny(NOTHING);
        }
        return acted();
    }

    public int mark() {
        if (!hasFamily) {
            return refuse(NO_SUCH);
        }
        int number = past.setMark(world.now);
        return number < 0 ? refuse(NO_ROOM) : grant(number);
    }

    public boolean back(int mark) {
        if (!past.goBack(mark, world.now)) {
            return deny(NO_SUCH);
        }
        return acted();
    }

    // ---- what is told

    public int led(int i) throws NoSuchElementException {
        int who = hasFamily ? annals.deadInTurn(i) : NOBODY;
        if (who < 0) {
            throw new NoSuchElementException();
        }
        return who;
    }

    public int size(int what) {
        Family told = world.told;
        switch (what) {
            case 0: return told.years;
            case 1: return world.now.law;
            case 2: return told.fare;
            case 3: return told.people;
            case 4: return told.plans;
            case 5: return told.buys + world.now.bought;
            case 6: return told.secrets;
            case 7: return told.hides;
            case 8: return told.diaries;
            case 9: return world.now.seed;
            case 10: return past.acts;
            case 11: return past.marks;
            case 12: return reader.taped;
            default: return NONE;
        }
    }

    public int trouble() {
        return trouble;
    }

    // ---- helpers of the face

    private int refuse(int why) {
        trouble = why;
        return NONE;
    }

    private int grant(int answer) {
        trouble = 0;
        return answer;
    }

    private boolean deny(int why) {
        trouble = why;
        return false;
    }

    /** All years are run anew at once, so that the calls that only look need not ask whether they are. */
    private boolean acted() {
        world.almanac.drawUp(world.told, world.now);
        annals.write();
        rows.forget();
        trouble = 0;
        return true;
    }

    private boolean isNoPerson(int p) {
        return !hasFamily || p < 0 || p >= world.told.people;
    }

    private boolean isNoPair(int p, int q) {
        return isNoPerson(p) || isNoPerson(q) || p == q;
    }

    private boolean isNoSecret(int s) {
        return !hasFamily || s < 0 || s >= world.told.secrets;
    }

    private boolean isNoYear(int year) {
        return year < 0 || year >= world.told.years;
    }

    private static boolean isNoLaw(int law) {
        return law < 0 || law >= LAWS;
    }

    private static boolean isNoMeasure(int what) {
        return what < 0 || what >= MEASURES;
    }

    private static boolean isNoSeed(int v) {
        return v < 0 || v >= SEED_BOUND;
    }

    private int yearTrouble(int year) {
        if (!hasFamily) {
            return NO_SUCH;
        }
        return isNoYear(year) ? BAD_NUMBER : 0;
    }

    private int personYearTrouble(int p, int year) {
        if (isNoPerson(p)) {
            return NO_SUCH;
        }
        return isNoYear(year) ? BAD_NUMBER : 0;
    }

    private int rowTrouble(int n) {
        if (!hasFamily) {
            return NO_SUCH;
        }
        return n < 1 || n > ROW_ROOM ? BAD_NUMBER : 0;
    }

    private int seedsTrouble(int n) {
        if (!hasFamily) {
            return NO_SUCH;
        }
        return n < 1 || n > MOST_SEEDS ? BAD_NUMBER : 0;
    }

    private int measureByLaw(int law, int what) {
        trial.begin(law, world.now.seed);
        trial.passYears();
        switch (what) {
            case 0: return trial.harm;
            case 1: return trial.deaths;
            case 2: return trial.spread();
            default: return trial.empties;
        }
    }

    private int harmOfTrade(int p, int q) {
        trial.begin(world.now.law, world.now.seed);
        trial.one = p;
        trial.two = q;
        trial.passYears();
        return trial.harm - annals.run.harm;
    }

    private boolean diariesFit(int law, int seed) {
        trial.begin(law, seed);
        trial.passYears();
        Family told = world.told;
        for (int i = 0; i < told.diaries; i++) {
            int[] diary = told.diary[i];
            boolean was = trial.elders[diary[WHEN]] == diary[WHO];
            if (was == (diary[IS_NOT] != 0)) {
                return false;
            }
        }
        return true;
    }

    private int swayedSets(int p, int voters) {
        int all = world.told.weightOf(voters);
        int others = voters & ~(1 << p);
        int own = world.told.person[p][WEIGHS];
        int count = 0;
        for (int set = 0; set <= others; set++) {
            if ((set & ~others) == 0) {
                int weight = world.told.weightOf(set);
                if (2 * weight <= all && 2 * (weight + own) > all) {
                    count++;
                }
            }
        }
        return count;
    }

    private static boolean has(int bits, int i) {
        return (bits >> i & 1) != 0;
    }

    /** Both numbers stay below 100 to the 8th, so that far fewer than 200 divisions are enough. */
    private static long commonPart(long a, long b) {
        long greater = a;
        long lesser = b;
        for (int i = 0; i < 200 && lesser != 0; i++) {
            long rest = greater % lesser;
            greater = lesser;
            lesser = rest;
        }
        return greater;
    }

    /** What the text tells. Acts leave it alone, so that undoing need not keep it. */
    private static final class Family {
        int years = 0;
        int law = 0;
        int fare = 0;
        int people = 0;
        int plans = 0;
        int buys = 0;
        int secrets = 0;
        int hides = 0;
        int diaries = 0;
        final int[][] person = new int[PEOPLE_ROOM][PERSON_PARTS];
        final int[][] plan = new int[PLAN_ROOM][PLAN_PARTS];
        final int[][] buy = new int[BUY_ROOM][BUY_PARTS];
        final int[][] diary = new int[DIARY_ROOM][DIARY_PARTS];
        final int[] knower = new int[SECRET_ROOM];
        /** From whom each one hides each secret, as bits. */
        final int[] hidden = new int[PEOPLE_ROOM * SECRET_ROOM];

        void clear() {
            years = 0;
            law = 0;
            fare = 0;
            people = 0;
            plans = 0;
            buys = 0;
            secrets = 0;
            hides = 0;
            diaries = 0;
            for (int i = 0; i < hidden.length; i++) {
                hidden[i] = 0;
            }
        }

        int weightOf(int set) {
            int sum = 0;
            for (int p = 0; p < people; p++) {
                if ((set >> p & 1) != 0) {
                    sum += person[p][WEIGHS];
                }
            }
            return sum;
        }
    }

    /** What acts and the seed change: small enough to be copied whole for undoing and marks. */
    private static final class Now {
        int law = 0;
        int seed = 0;
        int bought = 0;
        final int[] dies = new int[PEOPLE_ROOM];
        final int[] buys = new int[BUY_ROOM * BUY_PARTS];

        void startFrom(Family told) {
            law = told.law;
            seed = 0;
            bought = 0;
            for (int p = 0; p < told.people; p++) {
                dies[p] = told.person[p][DIES];
            }
        }

        void copyFrom(Now other) {
            law = other.law;
            seed = other.seed;
            bought = other.bought;
            System.arraycopy(other.dies, 0, dies, 0, PEOPLE_ROOM);
            System.arraycopy(other.buys, 0, buys, 0, BUY_ROOM * BUY_PARTS);
        }

        void addBuy(int year, int p, int q, int price) {
            if (bought < BUY_ROOM) {
                int at = bought * BUY_PARTS;
                buys[at + WHEN] = year;
                buys[at + SELLER] = p;
                buys[at + BUYER] = q;
                buys[at + PRICE] = price;
                bought++;
            }
        }
    }

    /** What was ahead of the latest acts, and the marks. */
    private static final class Past {
        int acts = 0;
        int marks = 0;
        final Now[] ahead = new Now[ACT_ROOM];
        final Now[] marked = new Now[MARK_ROOM];

        Past() {
            for (int i = 0; i < ACT_ROOM; i++) {
                ahead[i] = new Now();
            }
            for (int i = 0; i < MARK_ROOM; i++) {
                marked[i] = new Now();
            }
        }

        void forget() {
            acts = 0;
            marks = 0;
        }

        void keepAct(Now now) {
            if (acts >= ACT_ROOM) {
                dropOldest();
            }
            ahead[acts].copyFrom(now);
            acts++;
        }

        private void dropOldest() {
            Now oldest = ahead[0];
            for (int i = 1; i < ACT_ROOM; i++) {
                ahead[i - 1] = ahead[i];
            }
            ahead[ACT_ROOM - 1] = oldest;
            acts = ACT_ROOM - 1;
        }

        boolean takeBack(Now now) {
            if (acts <= 0) {
                return false;
            }
            acts--;
            now.copyFrom(ahead[acts]);
            return true;
        }

        int setMark(Now now) {
            if (marks >= MARK_ROOM) {
                return NONE;
            }
            marked[marks].copyFrom(now);
            marks++;
            return marks - 1;
        }

        boolean goBack(int mark, Now now) {
            if (mark < 0 || mark >= marks) {
                return false;
            }
            now.copyFrom(marked[mark]);
            acts = 0;
            return true;
        }
    }

    /** What holds in each year whoever is the elder, so that runs need not find it out anew. */
    private static final class Almanac {
        /** Who is there, and can be it, as bits, but for deaths in a turn. */
        final int[] there = new int[YEAR_ROOM];
        final int[] can = new int[YEAR_ROOM];
        final int[] harm = new int[YEAR_ROOM * PEOPLE_ROOM];
        final int[] branch = new int[2];

        void drawUp(Family told, Now now) {
            branch[0] = 0;
            branch[1] = 0;
            for (int p = 0; p < told.people; p++) {
                branch[told.person[p][SIDE] == 0 ? 0 : 1] |= 1 << p;
            }
            for (int year = 0; year < told.years; year++) {
                enterPeople(year, told, now);
                enterHarm(year, told);
            }
        }

        private void enterPeople(int year, Family told, Now now) {
            there[year] = 0;
            can[year] = 0;
            for (int p = 0; p < told.people; p++) {
                int[] of = told.person[p];
                boolean lives = now.dies[p] == NEVER || year < now.dies[p];
                if (of[BORN] <= year && lives) {
                    there[year] |= 1 << p;
                    if (of[KIND] != SOLDIER || year - of[BORN] < SOLDIER_AGES) {
                        can[year] |= 1 << p;
                    }
                }
            }
        }

        private void enterHarm(int year, Family told) {
            for (int p = 0; p < told.people; p++) {
                harm[year * PEOPLE_ROOM + p] = 0;
            }
            for (int i = 0; i < told.plans; i++) {
                int[] plan = told.plan[i];
                if (plan[FROM] <= year && year <= plan[TO]) {
                    harm[year * PEOPLE_ROOM + plan[OWNER]] += plan[HARM];
                }
            }
        }
    }

    /** What all runs look at. */
    private static final class World {
        Family told = new Family();
        final Now now = new Now();
        final Almanac almanac = new Almanac();
    }

    /** The years one by one, by a law and from a seed. */
    private static final class Run {
        final World world;
        int law = 0;
        int seed = 0;
        /** The two who change places whenever the law has one of them, if any. */
        int one = NONE;
        int two = NONE;
        /** Who died in a turn, as bits. */
        int died = 0;
        boolean diedLately = false;
        int latest = NONE;
        int harm = 0;
        int deaths = 0;
        int empties = 0;
        final int[] turns = new int[PEOPLE_ROOM];
        final int[] strength = new int[PEOPLE_ROOM];
        final int[] purse = new int[PEOPLE_ROOM];
        final int[] elders = new int[YEAR_ROOM];

        Run(World world) {
            this.world = world;
        }

        void begin(int byThat, int fromSeed) {
            law = byThat;
            seed = fromSeed;
            one = NONE;
            two = NONE;
            died = 0;
            diedLately = false;
            latest = NONE;
            harm = 0;
            deaths = 0;
            empties = 0;
            for (int p = 0; p < world.told.people; p++) {
                turns[p] = 0;
                strength[p] = world.told.person[p][STRONG];
                purse[p] = 0;
            }
        }

        void passYears() {
            for (int year = 0; year < world.told.years; year++) {
                passYear(year);
            }
        }

        void passYear(int year) {
            int who = whoComes(year);
            if (who == OPEN) {
                who = inPlaceOf(whoByLaw(year), whoCan(year));
            }
            takeTurn(year, soldTo(year, who));
        }

        int whoIsThere(int year) {
            return world.almanac.there[year] & ~died;
        }

        int whoCan(int year) {
            return world.almanac.can[year] & ~died;
        }

        /** OPEN if neither an empty chair, nor a lack of people, nor a twin settles it. */
        int whoComes(int year) {
            int can = whoCan(year);
            if (diedLately || can == 0) {
                return NOBODY;
            }
            int lately = year > 0 ? elders[year - 1] : NOBODY;
            if (lately < 0 || !has(can, lately) || world.told.person[lately][KIND] != TWIN) {
                return OPEN;
            }
            boolean twice = year > 1 && elders[year - 2] == lately;
            return twice ? OPEN : lately;
        }

        private int whoByLaw(int year) {
            int can = whoCan(year);
            switch (law) {
                case ROUND: return nextRound(can);
                case ELDEST: return byAge(fewestTurns(can), 1);
                case YOUNGEST: return byAge(fewestTurns(can), -1);
                case LOT: return drawn(fewestTurns(can));
                default: return voted(year, can);
            }
        }

        private int nextRound(int can) {
            int people = world.told.people;
            for (int p = latest + 1; p < people; p++) {
                if (has(can, p)) {
                    return p;
                }
            }
            for (int p = 0; p <= latest; p++) {
                if (has(can, p)) {
                    return p;
                }
            }
            return NOBODY;
        }

        private int fewestTurns(int set) {
            int least = ENDLESS;
            int those = 0;
            for (int p = 0; p < world.told.people; p++) {
                int count = world.told.person[p][KIND] == KEEN ? turns[p] - 1 : turns[p];
                boolean isIn = (set >> p & 1) != 0;
                if (isIn && count < least) {
                    least = count;
                    those = 0;
                }
                if (isIn && count == least) {
                    those |= 1 << p;
                }
            }
            return those;
        }

        /** The eldest by sign 1, the youngest by sign -1. */
        private int byAge(int set, int sign) {
            int best = NOBODY;
            int least = ENDLESS;
            for (int p = 0; p < world.told.people; p++) {
                int born = sign * world.told.person[p][BORN];
                if ((set >> p & 1) != 0 && born < least) {
                    best = p;
                    least = born;
                }
            }
            return best;
        }

        private int drawn(int set) {
            int many = Integer.bitCount(set);
            if (many == 0) {
                return NOBODY;
            }
            seed = (75 * seed + 74) % SEED_BOUND;
            int ahead = seed % many;
            for (int p = 0; p < world.told.people; p++) {
                if (has(set, p)) {
                    if (ahead == 0) {
                        return p;
                    }
                    ahead--;
                }
            }
            return NOBODY;
        }

        private int voted(int year, int can) {
            int leftSide = world.almanac.branch[0];
            int rightSide = world.almanac.branch[1];
            int left = byAge(fewestTurns(can & leftSide), 1);
            int right = byAge(fewestTurns(can & rightSide), 1);
            if (left < 0 || right < 0) {
                return left < 0 ? right : left;
            }
            int voters = whoIsThere(year);
            int forRight = world.told.weightOf(voters & leftSide);
            int forLeft = world.told.weightOf(voters & rightSide);
            if (forLeft == forRight) {
                return left < right ? left : right;
            }
            return forLeft > forRight ? left : right;
        }

        private int inPlaceOf(int who, int can) {
            if (who == one && two >= 0 && has(can, two)) {
                return two;
            }
            if (who == two && one >= 0 && has(can, one)) {
                return one;
            }
            return who;
        }

        private int soldTo(int year, int elder) {
            int who = elder;
            int can = whoCan(year);
            Family told = world.told;
            for (int i = 0; i < told.buys && who >= 0; i++) {
                int[] buy = told.buy[i];
                if (buy[WHEN] == year && buy[SELLER] == who && has(can, buy[BUYER])) {
                    who = pay(who, buy[BUYER], buy[PRICE]);
                }
            }
            int[] buys = world.now.buys;
            for (int i = 0; i < world.now.bought && who >= 0; i++) {
                int at = i * BUY_PARTS;
                if (buys[at + WHEN] == year && buys[at + SELLER] == who && has(can, buys[at + BUYER])) {
                    who = pay(who, buys[at + BUYER], buys[at + PRICE]);
                }
            }
            return who;
        }

        private int pay(int seller, int buyer, int price) {
            purse[seller] -= price;
            purse[buyer] += price;
            return buyer;
        }

        void takeTurn(int year, int who) {
            elders[year] = who;
            if (diedLately) {
                empties++;
            }
            diedLately = false;
            if (who < 0) {
                return;
            }
            latest = who;
            turns[who]++;
            strength[who]--;
            harm += world.almanac.harm[year * PEOPLE_ROOM + who];
            if (world.told.person[who][KIND] == COUSIN) {
                purse[who] -= world.told.fare;
            }
            if (strength[who] <= 0) {
                died |= 1 << who;
                diedLately = true;
                deaths++;
            }
        }

        /** Nobody is told to be born or to die behind the last year, so that its people are looked at. */
        int spread() {
            int end = world.told.years - 1;
            int there = end < 0 ? 0 : whoIsThere(end);
            if (there == 0) {
                return 0;
            }
            int most = 0;
            int least = ENDLESS;
            for (int p = 0; p < world.told.people; p++) {
                if (has(there, p)) {
                    most = Math.max(most, turns[p]);
                    least = Math.min(least, turns[p]);
                }
            }
            return most - least;
        }
    }

    /** What each one knows, and what lies in the box. It never sways who is elder, so most runs go without. */
    private static final class Notes {
        final World world;
        int lying = 0;
        final int[] known = new int[PEOPLE_ROOM];
        final int[] keptFrom = new int[SECRET_ROOM];

        Notes(World world) {
            this.world = world;
        }

        void begin() {
            lying = 0;
            for (int p = 0; p < PEOPLE_ROOM; p++) {
                known[p] = 0;
            }
            for (int s = 0; s < world.told.secrets; s++) {
                known[world.told.knower[s]] |= 1 << s;
            }
        }

        void takeTurn(int who, boolean dies) {
            readAs(who);
            if (!dies) {
                writeAs(who);
            }
        }

        private void readAs(int who) {
            for (int s = 0; s < world.told.secrets; s++) {
                if (has(lying, s) && !has(keptFrom[s], who)) {
                    known[who] |= 1 << s;
                }
            }
        }

        private void writeAs(int who) {
            for (int s = 0; s < world.told.secrets; s++) {
                if (has(known[who], s)) {
                    int hidden = world.told.hidden[who * SECRET_ROOM + s];
                    keptFrom[s] = has(lying, s) ? keptFrom[s] & hidden : hidden;
                }
            }
            lying |= known[who];
        }
    }

    /** The years as they run, each written down as it has gone by. */
    private static final class Annals {
        final World world;
        final Run run;
        final Notes notes;
        final int[] there = new int[YEAR_ROOM];
        final int[] can = new int[YEAR_ROOM];
        final int[] empty = new int[YEAR_ROOM];
        final int[] harm = new int[YEAR_ROOM];
        final int[] box = new int[YEAR_ROOM];
        final int[] knows = new int[YEAR_ROOM * PEOPLE_ROOM];
        final int[] kept = new int[YEAR_ROOM * SECRET_ROOM];

        Annals(World world) {
            this.world = world;
            run = new Run(world);
            notes = new Notes(world);
        }

        void write() {
            run.begin(world.now.law, world.now.seed);
            notes.begin();
            for (int year = 0; year < world.told.years; year++) {
                there[year] = run.whoIsThere(year);
                can[year] = run.whoCan(year);
                empty[year] = run.diedLately ? 1 : 0;
                int before = run.harm;
                run.passYear(year);
                harm[year] = run.harm - before;
                writeNotes(year, run.elders[year]);
            }
        }

        private void writeNotes(int year, int who) {
            if (who >= 0) {
                notes.takeTurn(who, run.diedLately);
            }
            box[year] = notes.lying;
            System.arraycopy(notes.known, 0, knows, year * PEOPLE_ROOM, PEOPLE_ROOM);
            System.arraycopy(notes.keptFrom, 0, kept, year * SECRET_ROOM, SECRET_ROOM);
        }

        int turnsBehind(int p, int year) {
            int count = 0;
            for (int y = 0; y <= year; y++) {
                if (run.elders[y] == p) {
                    count++;
                }
            }
            return count;
        }

        int harmTo(int p) {
            int sum = 0;
            for (int year = 0; year < world.told.years; year++) {
                if (run.elders[year] == p) {
                    sum += harm[year];
                }
            }
            return sum;
        }

        int firstTurn(int p) {
            for (int year = 0; year < world.told.years; year++) {
                if (run.elders[year] == p) {
                    return year;
                }
            }
            return NEVER;
        }

        int lastTurn(int p) {
            for (int year = world.told.years - 1; year >= 0; year--) {
                if (run.elders[year] == p) {
                    return year;
                }
            }
            return NEVER;
        }

        int firstKnowing(int s, int p) {
            for (int year = 0; year < world.told.years; year++) {
                if (has(knows[year * PEOPLE_ROOM + p], s)) {
                    return year;
                }
            }
            return NEVER;
        }

        int knowers(int s) {
            int count = 0;
            for (int p = 0; p < world.told.people; p++) {
                if (has(notes.known[p], s)) {
                    count++;
                }
            }
            return count;
        }

        /** Who died in a turn never has another one: his last turn is the one in which he died. */
        int deadInTurn(int i) {
            int ahead = i;
            for (int year = 0; year < world.told.years && ahead >= 0; year++) {
                int who = run.elders[year];
                if (who >= 0 && has(run.died, who) && lastTurn(who) == year) {
                    if (ahead == 0) {
                        return who;
                    }
                    ahead--;
                }
            }
            return NOBODY;
        }
    }

    /** Searches over who is elder in the first years; what was found is kept until something changes. */
    private static final class Rows {
        final World world;
        final Run run;
        final Notes notes;
        /** Who is wished for in each year; 0 where nobody is chosen. */
        final int[] wishes = new int[ROW_ROOM];
        final boolean[] isFound = new boolean[ROW_ROOM + 1];
        final int[] leastHarms = new int[ROW_ROOM + 1];
        final int[] bestRows = new int[(ROW_ROOM + 1) * ROW_ROOM];
        boolean areChainsFound = false;
        final int[] chains = new int[SECRET_ROOM * PEOPLE_ROOM];

        Rows(World world) {
            this.world = world;
            run = new Run(world);
            notes = new Notes(world);
        }

        void forget() {
            for (int n = 0; n <= ROW_ROOM; n++) {
                isFound[n] = false;
            }
            areChainsFound = false;
        }

        /** Rows come by numbers, so that of like ones the first is found first and stays. */
        int find(int n) {
            if (isFound[n]) {
                return leastHarms[n];
            }
            isFound[n] = true;
            leastHarms[n] = ENDLESS;
            clearWishes();
            boolean goesOn = true;
            for (int i = 0; i < MOST_ROWS && goesOn; i++) {
                goesOn = wishAnew(tryRow(n));
            }
            return leastHarms[n];
        }

        private void clearWishes() {
            for (int year = 0; year < ROW_ROOM; year++) {
                wishes[year] = 0;
            }
        }

        /** The next row that is another one in that year or ahead of it, if there is one. */
        private boolean wishAnew(int inYear) {
            for (int year = ROW_ROOM - 1; year > inYear; year--) {
                wishes[year] = 0;
            }
            for (int year = Math.min(inYear, ROW_ROOM - 1); year >= 0; year--) {
                wishes[year]++;
                if (wishes[year] < world.told.people) {
                    return true;
                }
                wishes[year] = 0;
            }
            return false;
        }

        /** The year for which another one must be wished: all rows that begin alike need not be tried. */
        private int tryRow(int n) {
            run.begin(world.now.law, world.now.seed);
            for (int year = 0; year < n; year++) {
                if (!meetWish(year) || run.harm >= leastHarms[n]) {
                    return year;
                }
            }
            for (int year = n; year < world.told.years && run.harm < leastHarms[n]; year++) {
                run.passYear(year);
            }
            if (run.harm < leastHarms[n]) {
                leastHarms[n] = run.harm;
                System.arraycopy(run.elders, 0, bestRows, n * ROW_ROOM, n);
            }
            return n - 1;
        }

        private boolean meetWish(int year) {
            int wish = wishes[year];
            int who = run.whoComes(year);
            boolean isChosen = who == OPEN;
            if (isChosen ? !has(run.whoCan(year), wish) : wish != 0) {
                return false;
            }
            run.takeTurn(year, isChosen ? wish : who);
            return true;
        }

        void findChains() {
            if (areChainsFound) {
                return;
            }
            areChainsFound = true;
            for (int i = 0; i < chains.length; i++) {
                chains[i] = NEVER;
            }
            for (int s = 0; s < world.told.secrets; s++) {
                chains[s * PEOPLE_ROOM + world.told.knower[s]] = 0;
            }
            clearWishes();
            boolean goesOn = true;
            for (int i = 0; i < MOST_ROWS && goesOn; i++) {
                goesOn = wishAnew(passNotes());
            }
        }

        private int passNotes() {
            run.begin(world.now.law, world.now.seed);
            notes.begin();
            for (int year = 0; year < ROW_ROOM; year++) {
                if (!meetWish(year)) {
                    return year;
                }
                int who = run.elders[year];
                if (who >= 0) {
                    notes.takeTurn(who, run.diedLately);
                    learn(who, year + 1);
                }
            }
            return ROW_ROOM - 1;
        }

        private void learn(int p, int years) {
            for (int s = 0; s < world.told.secrets; s++) {
                int at = s * PEOPLE_ROOM + p;
                if (has(notes.known[p], s) && (chains[at] < 0 || chains[at] > years)) {
                    chains[at] = years;
                }
            }
        }
    }

    /** Holds the tape, and reads it into a family, token by token, up to the first fault. */
    private static final class Reader {
        private static final int END = 0;
        private static final int WORD = 1;
        private static final int WHOLE = 2;
        private static final int SEMICOLON = 3;
        private static final int NO_TOKEN = 4;

        private static final int MOST_LETTERS = 8;
        private static final int MOST_DIGITS = 3;

        private static final int FORM = 1;
        private static final int UNTOLD = 2;
        private static final int AGAIN = 3;
        private static final int BOUNDS = 4;
        private static final int MANY = 5;
        private static final int LACKS = 6;

        private static final int FAMILY_LINE = 0;
        private static final int PERSON_LINE = 1;
        private static final int PLAN_LINE = 2;
        private static final int DIES_LINE = 3;
        private static final int BUYS_LINE = 4;
        private static final int SECRET_LINE = 5;
        private static final int HIDES_LINE = 6;
        private static final int DIARY_LINE = 7;
        private static final int NOT_LINE = 8;

        /** Places in the row for what a line tells that has no row in the family. */
        private static final int YEARS = 0;
        private static final int LAW = 1;
        private static final int FARE = 2;
        private static final int IS_BORN = 0;
        private static final int WHO_DIES = 0;
        private static final int HIDER = 0;
        private static final int HIDDEN = 1;
        private static final int HIDDEN_FROM = 2;
        private static final int HEAD_PARTS = 3;

        private static final int NAME_ROOM = PEOPLE_ROOM + SECRET_ROOM;

        /** The family that is read; the last one that was put aside, until then. */
        Family told = new Family();
        /** The latest fault, 0 without one, and its place. */
        int wrong = 0;
        int place = NONE;
        private final byte[] text = new byte[TAPE_ROOM];
        int taped = 0;
        private int end = 0;
        private int at = 0;
        private int kind = END;
        private int start = 0;
        private int length = 0;
        private int value = 0;
        private int latestName = 0;
        private int names = 0;
        private final int[] nameStart = new int[NAME_ROOM];
        private final int[] nameLength = new int[NAME_ROOM];
        private final int[] nameNumber = new int[NAME_ROOM];
        private final boolean[] isSecretName = new boolean[NAME_ROOM];
        private final int[] heads = new int[HEAD_PARTS];

        void putBytes(int four) {
            for (int shift = 24; shift >= 0 && taped < TAPE_ROOM; shift -= 8) {
                text[taped] = (byte) (four >>> shift);
                taped++;
            }
        }

        /** Whether there was no fault: the family is whole only then. */
        boolean readText(int n) {
            end = Math.min(n, taped);
            taped = 0;
            at = 0;
            wrong = 0;
            place = NONE;
            names = 0;
            told.clear();
            advance();
            boolean goesOn = readLine();
            for (int i = 0; i < TAPE_ROOM && goesOn && kind == SEMICOLON; i++) {
                advance();
                goesOn = readLine();
            }
            if (!goesOn) {
                return false;
            }
            if (kind != END) {
                return fail(FORM);
            }
            return told.people > 0 || fail(LACKS);
        }

        private boolean fail(int number) {
            wrong = number;
            place = start;
            return false;
        }

        // -- tokens

        private void advance() {
            at = endOfRun(' ', ' ');
            start = at;
            if (at >= end) {
                kind = END;
                return;
            }
            at = endOfRun('a', 'z');
            if (at > start) {
                length = at - start;
                kind = length <= MOST_LETTERS ? WORD : NO_TOKEN;
                return;
            }
            at = endOfRun('0', '9');
            if (at > start) {
                kind = at - start <= MOST_DIGITS ? WHOLE : NO_TOKEN;
                value = wholeOf(start, at);
                return;
            }
            kind = text[at] == ';' ? SEMICOLON : NO_TOKEN;
            at++;
        }

        private int endOfRun(char least, char most) {
            int i = at;
            while (i < end && text[i] >= least && text[i] <= most) {
                i++;
            }
            return i;
        }

        private int wholeOf(int from, int to) {
            int sum = 0;
            for (int i = from; i < to; i++) {
                sum = 10 * sum + (text[i] - '0');
            }
            return sum;
        }

        private boolean sees(String word) {
            if (kind != WORD || length != word.length()) {
                return false;
            }
            for (int i = 0; i < length; i++) {
                if (text[start + i] != word.charAt(i)) {
                    return false;
                }
            }
            return true;
        }

        private boolean takeWord(String word) {
            if (!sees(word)) {
                return fail(FORM);
            }
            advance();
            return true;
        }

        private boolean takeChoice(int[] into, int part, int choice) {
            if (choice < 0) {
                return fail(FORM);
            }
            into[part] = choice;
            advance();
            return true;
        }

        private boolean takeWhole(int[] into, int part, int least, int most) {
            if (kind != WHOLE) {
                return fail(FORM);
            }
            if (value < least || value > most) {
                return fail(BOUNDS);
            }
            into[part] = value;
            advance();
            return true;
        }

        // -- names

        private int seenName() {
            for (int i = 0; i < names; i++) {
                if (nameLength[i] == length && standsAt(nameStart[i])) {
                    return i;
                }
            }
            return NONE;
        }

        private boolean standsAt(int from) {
            for (int i = 0; i < length; i++) {
                if (text[from + i] != text[start + i]) {
                    return false;
                }
            }
            return true;
        }

        private boolean takeNewName(boolean ofSecret, int number) {
            if (kind != WORD || seenLine() >= 0) {
                return fail(FORM);
            }
            if (seenName() >= 0) {
                return fail(AGAIN);
            }
            if (names >= NAME_ROOM) {
                return fail(MANY);
            }
            nameStart[names] = start;
            nameLength[names] = length;
            isSecretName[names] = ofSecret;
            nameNumber[names] = number;
            names++;
            advance();
            return true;
        }

        private boolean takeName(int[] into, int part, boolean ofSecret) {
            if (kind != WORD || seenLine() >= 0) {
                return fail(FORM);
            }
            int name = seenName();
            if (name < 0 || isSecretName[name] != ofSecret) {
                return fail(UNTOLD);
            }
            into[part] = nameNumber[name];
            latestName = start;
            advance();
            return true;
        }

        /** A fault of the latest name, that shows only when it is held against what was told ahead. */
        private boolean failAtName(int number) {
            wrong = number;
            place = latestName;
            return false;
        }

        // -- lines

        private int seenLine() {
            if (sees("family")) {
                return FAMILY_LINE;
            }
            if (sees("person")) {
                return PERSON_LINE;
            }
            if (sees("plan")) {
                return PLAN_LINE;
            }
            if (sees("dies")) {
                return DIES_LINE;
            }
            if (sees("buys")) {
                return BUYS_LINE;
            }
            if (sees("secret")) {
                return SECRET_LINE;
            }
            if (sees("hides")) {
                return HIDES_LINE;
            }
            if (sees("diary")) {
                return DIARY_LINE;
            }
            return sees("not") ? NOT_LINE : NONE;
        }

        private boolean isFull(int line) {
            switch (line) {
                case PERSON_LINE: return told.people >= PEOPLE_ROOM;
                case PLAN_LINE: return told.plans >= PLAN_ROOM;
                case BUYS_LINE: return told.buys >= BUY_ROOM;
                case SECRET_LINE: return told.secrets >= SECRET_ROOM;
                case HIDES_LINE: return told.hides >= HIDE_ROOM;
                case DIARY_LINE:
                case NOT_LINE: return told.diaries >= DIARY_ROOM;
                default: return false;
            }
        }

        private boolean readLine() {
            int line = seenLine();
            if (line < 0) {
                return fail(FORM);
            }
            boolean hasFamilyLine = told.years > 0;
            if (line == FAMILY_LINE && hasFamilyLine) {
                return fail(AGAIN);
            }
            if (line != FAMILY_LINE && !hasFamilyLine) {
                return fail(LACKS);
            }
            if (isFull(line)) {
                return fail(MANY);
            }
            advance();
            switch (line) {
                case FAMILY_LINE: return readFamily();
                case PERSON_LINE: return readPerson(told.person[told.people]);
                case PLAN_LINE: return readPlan(told.plan[told.plans]);
                case DIES_LINE: return readDies();
                case BUYS_LINE: return readBuys(told.buy[told.buys]);
                case SECRET_LINE: return readSecret();
                case HIDES_LINE: return readHides();
                case DIARY_LINE: return readDiary(told.diary[told.diaries], 0);
                default: return readDiary(told.diary[told.diaries], 1);
            }
        }

        private boolean readFamily() {
            if (!takeWord("years") || !takeWhole(heads, YEARS, 4, YEAR_ROOM)
                    || !takeWord("law") || !takeChoice(heads, LAW, seenLaw())
                    || !takeWord("fare") || !takeWhole(heads, FARE, 0, 99)) {
                return false;
            }
            told.years = heads[YEARS];
            told.law = heads[LAW];
            told.fare = heads[FARE];
            return true;
        }

        private int seenLaw() {
            if (sees("round")) {
                return ROUND;
            }
            if (sees("eldest")) {
                return ELDEST;
            }
            if (sees("youngest")) {
                return YOUNGEST;
            }
            if (sees("lot")) {
                return LOT;
            }
            return sees("vote") ? VOTE : NONE;
        }

        private boolean readPerson(int[] of) {
            of[DIES] = NEVER;
            if (!takeNewName(false, told.people) || !takeChoice(of, KIND, seenKind())
                    || !takeWord("branch") || !takeChoice(of, SIDE, seenSide())
                    || !takeChoice(heads, IS_BORN, seenAge())
                    || !takeWhole(of, BORN, heads[IS_BORN], heads[IS_BORN] == 0 ? 90 : told.years - 1)
                    || !takeWord("strong") || !takeWhole(of, STRONG, 1, 9)
                    || !takeWord("weighs") || !takeWhole(of, WEIGHS, 0, 9)
                    || !takeWord("frail") || !takeWhole(of, FRAIL, 0, 100)) {
                return false;
            }
            // An age is kept as the year of birth, 0 or less, so that all ages are found alike.
            of[BORN] = heads[IS_BORN] == 0 ? -of[BORN] : of[BORN];
            told.people++;
            return true;
        }

        private int seenKind() {
            if (sees("plain")) {
                return 0;
            }
            if (sees("soldier")) {
                return SOLDIER;
            }
            if (sees("cousin")) {
                return COUSIN;
            }
            if (sees("twin")) {
                return TWIN;
            }
            return sees("keen") ? KEEN : NONE;
        }

        private int seenSide() {
            if (sees("left")) {
                return 0;
            }
            return sees("right") ? 1 : NONE;
        }

        private int seenAge() {
            if (sees("age")) {
                return 0;
            }
            return sees("born") ? 1 : NONE;
        }

        private boolean readPlan(int[] plan) {
            if (!takeName(plan, OWNER, false) || !takeWhole(plan, FROM, 0, told.years - 1)
                    || !takeWord("to") || !takeWhole(plan, TO, plan[FROM], told.years - 1)
                    || !takeWord("harm") || !takeWhole(plan, HARM, 1, 99)) {
                return false;
            }
            told.plans++;
            return true;
        }

        private boolean readDies() {
            if (!takeName(heads, WHO_DIES, false)) {
                return false;
            }
            int[] of = told.person[heads[WHO_DIES]];
            if (of[DIES] != NEVER) {
                return failAtName(AGAIN);
            }
            return takeWhole(of, DIES, 0, told.years - 1);
        }

        private boolean readBuys(int[] buy) {
            if (!takeWhole(buy, WHEN, 0, told.years - 1) || !takeName(buy, SELLER, false)
                    || !takeName(buy, BUYER, false)) {
                return false;
            }
            if (buy[BUYER] == buy[SELLER]) {
                return failAtName(AGAIN);
            }
            if (!takeWord("price") || !takeWhole(buy, PRICE, 0, MOST_PRICE)) {
                return false;
            }
            told.buys++;
            return true;
        }

        private boolean readSecret() {
            if (!takeNewName(true, told.secrets) || !takeName(told.knower, told.secrets, false)) {
                return false;
            }
            told.secrets++;
            return true;
        }

        private boolean readHides() {
            if (!takeName(heads, HIDER, false) || !takeName(heads, HIDDEN, true)
                    || !takeName(heads, HIDDEN_FROM, false)) {
                return false;
            }
            int hidden = heads[HIDER] * SECRET_ROOM + heads[HIDDEN];
            int from = heads[HIDDEN_FROM];
            if (from == heads[HIDER] || has(told.hidden[hidden], from)) {
                return failAtName(AGAIN);
            }
            told.hidden[hidden] |= 1 << from;
            told.hides++;
            return true;
        }

        private boolean readDiary(int[] diary, int isNot) {
            diary[IS_NOT] = isNot;
            if (!takeWhole(diary, WHEN, 0, told.years - 1) || !takeName(diary, WHO, false)) {
                return false;
            }
            told.diaries++;
            return true;
        }
    }
}
