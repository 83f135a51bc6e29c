import java.nio.charset.StandardCharsets;
import java.util.ArrayList;
import java.util.Arrays;
import java.util.HashMap;
import java.util.LinkedHashMap;
import java.util.List;
import java.util.Map;
import java.util.NoSuchElementException;
import java.util.Set;
import java.util.TreeSet;

/** The document once more, written as plainly as can be and without a thought for speed: the tests' second opinion. */
final class PlainModel {
    static final class Fault extends RuntimeException {
        final int number;
        final int place;

        Fault(int number, int place) {
            this.number = number;
            this.place = place;
        }
    }

    record Token(char sort, String text, int place) {
    }

    record Plan(int who, int from, int to, int harm) {
    }

    record Buy(int year, int seller, int buyer, int price) {
    }

    record Diary(int year, int who, boolean not) {
    }

    record Hide(int who, int secret, int from) {
    }

    record Person(int kind, int side, int born, int strong, int weighs, int frail) {
    }

    static final class Family {
        int years;
        int law;
        int fare;
        final List<Person> people = new ArrayList<>();
        final Map<Integer, Integer> dies = new HashMap<>();
        final List<Plan> plans = new ArrayList<>();
        final List<Buy> buys = new ArrayList<>();
        final List<Integer> secrets = new ArrayList<>();
        final List<Hide> hides = new ArrayList<>();
        final List<Diary> diaries = new ArrayList<>();
    }

    /** What acts change. */
    record State(int law, int seed, Map<Integer, Integer> dies, List<Buy> buys) {
    }

    static final List<String> LAWS = List.of("round", "eldest", "youngest", "lot", "vote");
    static final List<String> KINDS = List.of("plain", "soldier", "cousin", "twin", "keen");
    static final Set<String> RESERVED = Set.of("family", "person", "plan", "dies", "buys", "secret", "hides", "diary",
            "not");

    // ---- reading

    static final class Parser {
        final List<Token> tokens = new ArrayList<>();
        int next = 0;
        final Family f = new Family();
        final Map<String, String> sorts = new LinkedHashMap<>();
        final Map<String, Integer> numbers = new HashMap<>();

        Parser(String text) {
            int i = 0;
            while (i < text.length()) {
                char c = text.charAt(i);
                if (c == ' ') {
                    i++;
                    continue;
                }
                int j = i;
                if (c >= 'a' && c <= 'z') {
                    while (j < text.length() && text.charAt(j) >= 'a' && text.charAt(j) <= 'z') {
                        j++;
                    }
                    tokens.add(new Token(j - i > 8 ? '?' : 'w', text.substring(i, j), i));
                } else if (c >= '0' && c <= '9') {
                    while (j < text.length() && text.charAt(j) >= '0' && text.charAt(j) <= '9') {
                        j++;
                    }
                    tokens.add(new Token(j - i > 3 ? '?' : 'n', text.substring(i, j), i));
                } else {
                    j = i + 1;
                    tokens.add(new Token(c == ';' ? ';' : '?', text.substring(i, j), i));
                }
                i = j;
            }
            tokens.add(new Token('.', "", text.length()));
        }

        Token look() {
            return tokens.get(next);
        }

        Token token(char sort) {
            if (look().sort() != sort) {
                throw new Fault(1, look().place());
            }
            return tokens.get(next++);
        }

        int oneOf(List<String> words) {
            Token t = token('w');
            int i = words.indexOf(t.text());
            if (i < 0) {
                throw new Fault(1, t.place());
            }
            return i;
        }

        void word(String w) {
            oneOf(List.of(w));
        }

        int whole(int least, int most) {
            Token t = token('n');
            int v = Integer.parseInt(t.text());
            if (v < least || v > most) {
                throw new Fault(4, t.place());
            }
            return v;
        }

        Token name() {
            Token t = token('w');
            if (RESERVED.contains(t.text())) {
                throw new Fault(1, t.place());
            }
            return t;
        }

        void tell(String sort, int number) {
            Token t = name();
            if (sorts.containsKey(t.text())) {
                throw new Fault(3, t.place());
            }
            sorts.put(t.text(), sort);
            numbers.put(t.text(), number);
        }

        int told(String sort) {
            Token t = name();
            if (!sort.equals(sorts.get(t.text()))) {
                throw new Fault(2, t.place());
            }
            return numbers.get(t.text());
        }

        int placeBehind() {
            return tokens.get(next - 1).place();
        }

        void room(int count, int room, Token first) {
            if (count >= room) {
                throw new Fault(5, first.place());
            }
        }

        Family read() {
            line(true);
            while (look().sort() == ';') {
                next++;
                line(false);
            }
            token('.');
            if (f.people.isEmpty()) {
                throw new Fault(6, placeBehind());
            }
            return f;
        }

        void line(boolean isFirst) {
            Token t = token('w');
            if (!RESERVED.contains(t.text())) {
                throw new Fault(1, t.place());
            }
            if (t.text().equals("family")) {
                if (!isFirst) {
                    throw new Fault(3, t.place());
                }
                word("years");
                f.years = whole(4, 24);
                word("law");
                f.law = oneOf(LAWS);
                word("fare");
                f.fare = whole(0, 99);
                return;
            }
            if (isFirst) {
                throw new Fault(6, t.place());
            }
            int end = f.years - 1;
            switch (t.text()) {
                case "person" -> {
                    room(f.people.size(), 10, t);
                    tell("person", f.people.size());
                    int kind = oneOf(KINDS);
                    word("branch");
                    int side = oneOf(List.of("left", "right"));
                    int born = oneOf(List.of("age", "born")) == 0 ? -whole(0, 90) : whole(1, end);
                    word("strong");
                    int strong = whole(1, 9);
                    word("weighs");
                    int weighs = whole(0, 9);
                    word("frail");
                    f.people.add(new Person(kind, side, born, strong, weighs, whole(0, 100)));
                }
                case "plan" -> {
                    room(f.plans.size(), 12, t);
                    int who = told("person");
                    int from = whole(0, end);
                    word("to");
                    int to = whole(from, end);
                    word("harm");
                    f.plans.add(new Plan(who, from, to, whole(1, 99)));
                }
                case "dies" -> {
                    int who = told("person");
                    if (f.dies.containsKey(who)) {
                        throw new Fault(3, placeBehind());
                    }
                    f.dies.put(who, whole(0, end));
                }
                case "buys" -> {
                    room(f.buys.size(), 8, t);
                    int year = whole(0, end);
                    int p = told("person");
                    int q = told("person");
                    if (p == q) {
                        throw new Fault(3, placeBehind());
                    }
                    word("price");
                    f.buys.add(new Buy(year, p, q, whole(0, 99)));
                }
                case "secret" -> {
                    room(f.secrets.size(), 8, t);
                    tell("secret", f.secrets.size());
                    f.secrets.add(told("person"));
                }
                case "hides" -> {
                    room(f.hides.size(), 8, t);
                    int who = told("person");
                    int secret = told("secret");
                    Hide hide = new Hide(who, secret, told("person"));
                    if (hide.from() == who || f.hides.contains(hide)) {
                        throw new Fault(3, placeBehind());
                    }
                    f.hides.add(hide);
                }
                default -> {
                    room(f.diaries.size(), 8, t);
                    int year = whole(0, end);
                    f.diaries.add(new Diary(year, told("person"), t.text().equals("not")));
                }
            }
        }
    }

    // ---- running

    /** A run up to some year, from its beginning. */
    final class Story {
        final int law;
        long seed;
        int one = -1;
        int two = -1;
        final List<Integer> elders = new ArrayList<>();
        final List<Boolean> empties = new ArrayList<>();
        final List<Integer> harms = new ArrayList<>();
        final Map<Integer, Integer> diedIn = new LinkedHashMap<>();
        final int[] purse = new int[10];
        final List<List<Set<Integer>>> known = new ArrayList<>();
        final List<Map<Integer, Set<Integer>>> boxes = new ArrayList<>();

        Story(int law, long seed) {
            this.law = law;
            this.seed = seed;
        }

        int year() {
            return elders.size();
        }

        boolean isThere(int p, int year) {
            Integer told = state.dies().get(p);
            Integer turn = diedIn.get(p);
            return fam.people.get(p).born() <= year && (told == null || year < told) && (turn == null || year <= turn);
        }

        boolean isAble(int p, int year) {
            Person of = fam.people.get(p);
            return isThere(p, year) && (of.kind() != 1 || year - of.born() < 30);
        }

        List<Integer> able(int year) {
            List<Integer> list = new ArrayList<>();
            for (int p = 0; p < fam.people.size(); p++) {
                if (isAble(p, year)) {
                    list.add(p);
                }
            }
            return list;
        }

        int turns(int p) {
            int n = 0;
            for (int e : elders) {
                n += e == p ? 1 : 0;
            }
            return n;
        }

        int counted(int p) {
            return turns(p) - (fam.people.get(p).kind() == 4 ? 1 : 0);
        }

        boolean isEmptyNow() {
            return diedIn.containsValue(year() - 1);
        }

        /** Who comes though no law says so: -2 nobody, -3 it is the law's. */
        int comes() {
            int y = year();
            if (isEmptyNow() || able(y).isEmpty()) {
                return -2;
            }
            if (y >= 1) {
                int e = elders.get(y - 1);
                boolean before = y >= 2 && elders.get(y - 2) == e;
                if (e >= 0 && fam.people.get(e).kind() == 3 && !before && isAble(e, y)) {
                    return e;
                }
            }
            return -3;
        }

        List<Integer> fewest(List<Integer> list) {
            int least = Integer.MAX_VALUE;
            for (int p : list) {
                least = Math.min(least, counted(p));
            }
            List<Integer> those = new ArrayList<>();
            for (int p : list) {
                if (counted(p) == least) {
                    those.add(p);
                }
            }
            return those;
        }

        int ofAge(List<Integer> list, boolean eldest) {
            int best = -2;
            for (int p : list) {
                if (best < 0) {
                    best = p;
                    continue;
                }
                int a = year() - fam.people.get(p).born();
                int b = year() - fam.people.get(best).born();
                if (eldest ? a > b : a < b) {
                    best = p;
                }
            }
            return best;
        }

        int byTheLaw() {
            List<Integer> can = able(year());
            if (law == 0) {
                int last = -1;
                for (int e : elders) {
                    last = e >= 0 ? e : last;
                }
                for (int step = 1; step <= fam.people.size(); step++) {
                    int p = (last + step) % fam.people.size();
                    if (can.contains(p)) {
                        return p;
                    }
                }
                return -2;
            }
            if (law == 1 || law == 2) {
                return ofAge(fewest(can), law == 1);
            }
            if (law == 3) {
                List<Integer> those = fewest(can);
                seed = (75 * seed + 74) % 65537;
                return those.get((int) (seed % those.size()));
            }
            return votes(can);
        }

        int votes(List<Integer> can) {
            int[] standing = new int[2];
            for (int side = 0; side < 2; side++) {
                List<Integer> mine = new ArrayList<>();
                for (int p : can) {
                    if (fam.people.get(p).side() == side) {
                        mine.add(p);
                    }
                }
                standing[side] = mine.isEmpty() ? -2 : ofAge(fewest(mine), true);
            }
            int[] votes = new int[fam.people.size()];
            for (int p = 0; p < fam.people.size(); p++) {
                if (isThere(p, year())) {
                    int side = fam.people.get(p).side();
                    int vote = standing[1 - side] >= 0 ? standing[1 - side] : standing[side];
                    votes[vote] += fam.people.get(p).weighs();
                }
            }
            int best = -2;
            for (int p = 0; p < votes.length; p++) {
                if ((p == standing[0] || p == standing[1]) && (best < 0 || votes[p] > votes[best])) {
                    best = p;
                }
            }
            return best;
        }

        void runTo(int end) {
            while (year() < end) {
                int y = year();
                int who = comes();
                if (who == -3) {
                    who = byTheLaw();
                    int other = who == one ? two : who == two ? one : -1;
                    who = other >= 0 && isAble(other, y) ? other : who;
                }
                List<Buy> all = new ArrayList<>(fam.buys);
                all.addAll(state.buys());
                for (Buy b : all) {
                    if (b.year() == y && b.seller() == who && isAble(b.buyer(), y)) {
                        purse[who] -= b.price();
                        who = b.buyer();
                        purse[who] += b.price();
                    }
                }
                turn(who);
            }
        }

        void turn(int who) {
            int y = year();
            empties.add(isEmptyNow());
            int strength = who < 0 ? 0 : fam.people.get(who).strong() - turns(who) - 1;
            elders.add(who);
            List<Set<Integer>> knows = new ArrayList<>();
            for (int p = 0; p < fam.people.size(); p++) {
                knows.add(new TreeSet<>());
                for (int s = 0; s < fam.secrets.size(); s++) {
                    if (y == 0 ? fam.secrets.get(s) == p : known.get(y - 1).get(p).contains(s)) {
                        knows.get(p).add(s);
                    }
                }
            }
            Map<Integer, Set<Integer>> box = new HashMap<>();
            if (y > 0) {
                box.putAll(boxes.get(y - 1));
            }
            int harm = 0;
            if (who >= 0) {
                for (int s : box.keySet()) {
                    if (!box.get(s).contains(who)) {
                        knows.get(who).add(s);
                    }
                }
                for (Plan plan : fam.plans) {
                    if (plan.who() == who && plan.from() <= y && y <= plan.to()) {
                        harm += plan.harm();
                    }
                }
                if (fam.people.get(who).kind() == 2) {
                    purse[who] -= fam.fare;
                }
                if (strength == 0) {
                    diedIn.put(who, y);
                } else {
                    for (int s : knows.get(who)) {
                        Set<Integer> from = new TreeSet<>();
                        for (Hide h : fam.hides) {
                            boolean was = !box.containsKey(s) || box.get(s).contains(h.from());
                            if (h.who() == who && h.secret() == s && was) {
                                from.add(h.from());
                            }
                        }
                        box.put(s, from);
                    }
                }
            }
            harms.add(harm);
            known.add(knows);
            boxes.add(box);
        }

        int harm() {
            int sum = 0;
            for (int h : harms) {
                sum += h;
            }
            return sum;
        }

        int fair() {
            List<Integer> counts = new ArrayList<>();
            for (int p = 0; p < fam.people.size(); p++) {
                if (isThere(p, fam.years)) {
                    counts.add(turns(p));
                }
            }
            int least = 99;
            int most = -99;
            for (int c : counts) {
                least = Math.min(least, c);
                most = Math.max(most, c);
            }
            return counts.isEmpty() ? 0 : most - least;
        }

        int measure(int what) {
            int empty = 0;
            for (boolean e : empties) {
                empty += e ? 1 : 0;
            }
            return new int[] {harm(), diedIn.size(), fair(), empty}[what];
        }

        boolean fits() {
            for (Diary d : fam.diaries) {
                if ((elders.get(d.year()) == d.who()) == d.not()) {
                    return false;
                }
            }
            return true;
        }
    }

    Story story(int law, long seed) {
        Story s = new Story(law, seed);
        s.runTo(fam.years);
        return s;
    }

    Story now() {
        return story(state.law(), state.seed());
    }

    /** All rows of n chosen years, by numbers, each run that far. */
    List<Story> rows(int n) {
        List<List<Integer>> begun = new ArrayList<>();
        begun.add(new ArrayList<>());
        for (int year = 0; year < n; year++) {
            List<List<Integer>> longer = new ArrayList<>();
            for (List<Integer> row : begun) {
                Story s = play(row);
                int comes = s.comes();
                for (int who : comes == -3 ? s.able(year) : List.of(comes)) {
                    List<Integer> more = new ArrayList<>(row);
                    more.add(who);
                    longer.add(more);
                }
            }
            begun = longer;
        }
        List<Story> all = new ArrayList<>();
        for (List<Integer> row : begun) {
            all.add(play(row));
        }
        return all;
    }

    Story play(List<Integer> row) {
        Story s = new Story(state.law(), state.seed());
        for (int who : row) {
            s.turn(who);
        }
        return s;
    }

    Story bestRow(int n) {
        Story best = null;
        for (Story s : rows(n)) {
            s.runTo(fam.years);
            if (best == null || s.harm() < best.harm()) {
                best = s;
            }
        }
        return best;
    }

    // ---- the face

    private byte[] tape = new byte[0];
    private Family fam = null;
    private State state = new State(0, 0, Map.of(), List.of());
    private final List<State> ahead = new ArrayList<>();
    private final List<State> marks = new ArrayList<>();
    private int trouble = 0;
    private int fault = 0;
    private int place = -1;

    private int no(int why) {
        trouble = why;
        return -1;
    }

    private int yes(int answer) {
        trouble = 0;
        return answer;
    }

    private boolean noPerson(int p) {
        return fam == null || p < 0 || p >= fam.people.size();
    }

    private boolean noSecret(int s) {
        return fam == null || s < 0 || s >= fam.secrets.size();
    }

    private boolean noYear(int y) {
        return y < 0 || y >= fam.years;
    }

    private int yearWhy(int year) {
        return fam == null ? 1 : noYear(year) ? 2 : 0;
    }

    private int personYearWhy(int p, int year) {
        return noPerson(p) ? 1 : noYear(year) ? 2 : 0;
    }

    private static int bits(Set<Integer> set) {
        int b = 0;
        for (int i : set) {
            b |= 1 << i;
        }
        return b;
    }

    int feed(int a, int b, int c, int d, int e) {
        if (tape.length + 20 > 1100) {
            return -1;
        }
        int[] five = {a, b, c, d, e};
        int from = tape.length;
        tape = Arrays.copyOf(tape, from + 20);
        for (int i = 0; i < 20; i++) {
            tape[from + i] = (byte) (five[i / 4] >> 24 - i % 4 * 8);
        }
        return tape.length;
    }

    int family(int n) {
        if (n < 0 || n > tape.length) {
            return no(2);
        }
        String text = new String(tape, 0, n, StandardCharsets.ISO_8859_1);
        tape = new byte[0];
        try {
            fam = new Parser(text).read();
        } catch (Fault f) {
            fault = f.number;
            place = f.place;
            return no(4);
        }
        fault = 0;
        state = new State(fam.law, 0, Map.copyOf(fam.dies), List.of());
        ahead.clear();
        marks.clear();
        return yes(fam.people.size());
    }

    int fault() {
        return fault;
    }

    int where() {
        return trouble == 4 ? place : -1;
    }

    int person(int p, int what) {
        if (noPerson(p) || what < 0 || what > 6) {
            return no(1);
        }
        Person x = fam.people.get(p);
        int age = x.born() > 0 ? -100 : -x.born();
        int dies = state.dies().getOrDefault(p, -2);
        return yes(new int[] {x.kind(), x.side(), age, x.strong(), x.weighs(), x.frail(), dies}[what]);
    }

    int plan(int i, int what) {
        if (fam == null || i < 0 || i >= fam.plans.size() || what < 0 || what > 3) {
            return no(1);
        }
        Plan x = fam.plans.get(i);
        return yes(new int[] {x.who(), x.from(), x.to(), x.harm()}[what]);
    }

    int secret(int s) {
        return noSecret(s) ? no(1) : yes(fam.secrets.get(s));
    }

    int elder(int year) {
        int why = yearWhy(year);
        return why != 0 ? no(why) : yes(now().elders.get(year));
    }

    int empty(int year) {
        int why = yearWhy(year);
        return why != 0 ? no(why) : yes(now().empties.get(year) ? 1 : 0);
    }

    int there(int year) {
        int why = yearWhy(year);
        if (why != 0) {
            return no(why);
        }
        Story s = now();
        int b = 0;
        for (int p = 0; p < fam.people.size(); p++) {
            b |= s.isThere(p, year) ? 1 << p : 0;
        }
        return yes(b);
    }

    int can(int year) {
        int why = yearWhy(year);
        return why != 0 ? no(why) : yes(bits(new TreeSet<>(now().able(year))));
    }

    int age(int p, int year) {
        int why = personYearWhy(p, year);
        if (why != 0) {
            return no(why);
        }
        int born = fam.people.get(p).born();
        return yes(born > year ? -2 : year - born);
    }

    private int turnsBehind(int p, int year) {
        Story s = new Story(state.law(), state.seed());
        s.runTo(year + 1);
        return s.turns(p);
    }

    int turnsOf(int p, int year) {
        int why = personYearWhy(p, year);
        return why != 0 ? no(why) : yes(turnsBehind(p, year));
    }

    int strength(int p, int year) {
        int why = personYearWhy(p, year);
        return why != 0 ? no(why) : yes(fam.people.get(p).strong() - turnsBehind(p, year));
    }

    int knows(int p, int year) {
        int why = personYearWhy(p, year);
        return why != 0 ? no(why) : yes(bits(now().known.get(year).get(p)));
    }

    int box(int year) {
        int why = yearWhy(year);
        return why != 0 ? no(why) : yes(bits(now().boxes.get(year).keySet()));
    }

    int kept(int s, int year) {
        if (noSecret(s)) {
            return no(1);
        }
        if (noYear(year)) {
            return no(2);
        }
        Set<Integer> from = now().boxes.get(year).get(s);
        return yes(from == null ? -2 : bits(from));
    }

    int harm(int year) {
        int why = yearWhy(year);
        return why != 0 ? no(why) : yes(now().harms.get(year));
    }

    int harmAll() {
        return fam == null ? no(1) : yes(now().harm());
    }

    int harmOf(int p) {
        if (noPerson(p)) {
            return no(1);
        }
        Story s = now();
        int sum = 0;
        for (Plan plan : fam.plans) {
            for (int y = plan.from(); y <= plan.to(); y++) {
                sum += plan.who() == p && s.elders.get(y) == p ? plan.harm() : 0;
            }
        }
        return yes(sum);
    }

    int purse(int p) {
        if (noPerson(p)) {
            no(1);
            return -10000;
        }
        return yes(now().purse[p]);
    }

    int first(int p) {
        if (noPerson(p)) {
            return no(1);
        }
        int at = now().elders.indexOf(p);
        return yes(at < 0 ? -2 : at);
    }

    int last(int p) {
        if (noPerson(p)) {
            return no(1);
        }
        int at = now().elders.lastIndexOf(p);
        return yes(at < 0 ? -2 : at);
    }

    int fair() {
        return fam == null ? no(1) : yes(now().fair());
    }

    int deaths() {
        return fam == null ? no(1) : yes(now().diedIn.size());
    }

    int soonest(int s, int p) {
        if (noSecret(s) || noPerson(p)) {
            return no(1);
        }
        Story story = now();
        for (int y = 0; y < fam.years; y++) {
            if (story.known.get(y).get(p).contains(s)) {
                return yes(y);
            }
        }
        return yes(-2);
    }

    int know(int s) {
        if (noSecret(s)) {
            return no(1);
        }
        int n = 0;
        for (Set<Integer> known : now().known.get(fam.years - 1)) {
            n += known.contains(s) ? 1 : 0;
        }
        return yes(n);
    }

    int byLaw(int law, int what) {
        if (fam == null || law < 0 || law > 4 || what < 0 || what > 3) {
            return no(1);
        }
        return yes(story(law, state.seed()).measure(what));
    }

    int bestLaw(int what) {
        if (fam == null || what < 0 || what > 3) {
            return no(1);
        }
        List<Integer> all = new ArrayList<>();
        for (int law = 0; law < 5; law++) {
            all.add(story(law, state.seed()).measure(what));
        }
        return yes(all.indexOf(java.util.Collections.min(all)));
    }

    int row(int n) {
        if (fam == null) {
            return no(1);
        }
        return n < 1 || n > 4 ? no(2) : yes(bestRow(n).harm());
    }

    int rowAt(int n, int i) {
        if (fam == null) {
            return no(1);
        }
        if (n < 1 || n > 4) {
            return no(2);
        }
        return i < 0 || i >= n ? no(1) : yes(bestRow(n).elders.get(i));
    }

    int chain(int s, int p) {
        if (noSecret(s) || noPerson(p)) {
            return no(1);
        }
        if (fam.secrets.get(s) == p) {
            return yes(0);
        }
        for (int n = 1; n <= 4; n++) {
            for (Story story : rows(n)) {
                if (story.known.get(n - 1).get(p).contains(s)) {
                    return yes(n);
                }
            }
        }
        return yes(-2);
    }

    private int traded(int p, int q) {
        Story s = new Story(state.law(), state.seed());
        s.one = p;
        s.two = q;
        s.runTo(fam.years);
        return s.harm() - now().harm();
    }

    int trade(int p, int q) {
        if (noPerson(p) || noPerson(q) || p == q) {
            no(1);
            return -10000;
        }
        return yes(traded(p, q));
    }

    int bestTrade() {
        if (fam == null) {
            return no(1);
        }
        if (fam.people.size() == 1) {
            return no(6);
        }
        int best = -1;
        int least = 0;
        for (int p = 0; p < fam.people.size(); p++) {
            for (int q = p + 1; q < fam.people.size(); q++) {
                int harm = traded(p, q);
                if (best < 0 || harm < least) {
                    best = 100 * p + q;
                    least = harm;
                }
            }
        }
        return yes(best);
    }

    int fits() {
        if (fam == null) {
            return no(1);
        }
        int b = 0;
        for (int law = 0; law < 5; law++) {
            b |= story(law, state.seed()).fits() ? 1 << law : 0;
        }
        return yes(b);
    }

    private List<Integer> fitting(int n) {
        List<Integer> list = new ArrayList<>();
        for (int v = 0; v < n; v++) {
            if (story(3, v).fits()) {
                list.add(v);
            }
        }
        return list;
    }

    int seeds(int n) {
        if (fam == null) {
            return no(1);
        }
        return n < 1 || n > 200 ? no(2) : yes(fitting(n).size());
    }

    int firstSeed(int n) {
        if (fam == null) {
            return no(1);
        }
        if (n < 1 || n > 200) {
            return no(2);
        }
        List<Integer> list = fitting(n);
        return yes(list.isEmpty() ? -2 : list.get(0));
    }

    int power(int p) {
        if (noPerson(p)) {
            return no(1);
        }
        Story s = new Story(0, 0);
        List<Integer> others = new ArrayList<>();
        int all = 0;
        for (int q = 0; q < fam.people.size(); q++) {
            if (s.isThere(q, 0)) {
                all += fam.people.get(q).weighs();
                if (q != p) {
                    others.add(q);
                }
            }
        }
        return yes(s.isThere(p, 0) ? sways(others, 0, 0, fam.people.get(p).weighs(), all) : 0);
    }

    private int sways(List<Integer> others, int from, int weight, int own, int all) {
        if (from == others.size()) {
            return weight * 2 <= all && (weight + own) * 2 > all ? 1 : 0;
        }
        int w = fam.people.get(others.get(from)).weighs();
        return sways(others, from + 1, weight, own, all) + sways(others, from + 1, weight + w, own, all);
    }

    long stands(int t, boolean lower) {
        if (fam == null) {
            return no(1);
        }
        if (t < 0 || t > 8 || t > fam.years) {
            return no(2);
        }
        Story s = now();
        java.math.BigInteger up = java.math.BigInteger.ONE;
        java.math.BigInteger low = java.math.BigInteger.ONE;
        for (int y = 0; y < t; y++) {
            if (s.elders.get(y) >= 0) {
                up = up.multiply(java.math.BigInteger.valueOf(100 - fam.people.get(s.elders.get(y)).frail()));
                low = low.multiply(java.math.BigInteger.valueOf(100));
            }
        }
        trouble = 0;
        java.math.BigInteger g = up.gcd(low);
        return (lower ? low : up).divide(g).longValueExact();
    }

    int mean(int p, int seed, int n) {
        if (noPerson(p)) {
            return no(1);
        }
        if (seed < 0 || seed > 65536 || n < 1 || n > 50) {
            return no(2);
        }
        int sum = 0;
        int v = seed;
        for (int i = 0; i < n; i++) {
            sum += story(3, v).turns(p);
            v = v == 65536 ? 0 : v + 1;
        }
        return yes(sum);
    }

    private boolean act(State next) {
        ahead.add(state);
        if (ahead.size() > 12) {
            ahead.remove(0);
        }
        state = next;
        trouble = 0;
        return true;
    }

    private boolean deny(int why) {
        trouble = why;
        return false;
    }

    boolean buy(int year, int p, int q, int price) {
        if (noPerson(p) || noPerson(q) || p == q) {
            return deny(1);
        }
        if (noYear(year) || price < 0 || price > 99) {
            return deny(2);
        }
        if (state.buys().size() == 8) {
            return deny(3);
        }
        List<Buy> more = new ArrayList<>(state.buys());
        more.add(new Buy(year, p, q, price));
        return act(new State(state.law(), state.seed(), state.dies(), more));
    }

    boolean death(int p, int year) {
        if (noPerson(p)) {
            return deny(1);
        }
        if (year != -2 && noYear(year)) {
            return deny(2);
        }
        if (state.dies().getOrDefault(p, -2) == year) {
            return deny(5);
        }
        Map<Integer, Integer> dies = new HashMap<>(state.dies());
        dies.remove(p);
        if (year != -2) {
            dies.put(p, year);
        }
        return act(new State(state.law(), state.seed(), dies, state.buys()));
    }

    boolean law(int law) {
        if (fam == null || law < 0 || law > 4) {
            return deny(1);
        }
        return state.law() == law ? deny(5) : act(new State(law, state.seed(), state.dies(), state.buys()));
    }

    boolean seed(int v) {
        if (fam == null) {
            return deny(1);
        }
        if (v < 0 || v > 65536) {
            return deny(2);
        }
        state = new State(state.law(), v, state.dies(), state.buys());
        trouble = 0;
        return true;
    }

    boolean undo() {
        if (ahead.isEmpty()) {
            return deny(6);
        }
        state = ahead.remove(ahead.size() - 1);
        trouble = 0;
        return true;
    }

    int mark() {
        if (fam == null) {
            return no(1);
        }
        if (marks.size() == 3) {
            return no(3);
        }
        marks.add(state);
        return yes(marks.size() - 1);
    }

    boolean back(int mark) {
        if (mark < 0 || mark >= marks.size()) {
            return deny(1);
        }
        state = marks.get(mark);
        ahead.clear();
        trouble = 0;
        return true;
    }

    int led(int i) {
        List<Integer> list = fam == null ? List.of() : new ArrayList<>(now().diedIn.keySet());
        if (i < 0 || i >= list.size()) {
            throw new NoSuchElementException();
        }
        return list.get(i);
    }

    int size(int what) {
        if (what == 12) {
            return tape.length;
        }
        if (what < 0 || what > 12) {
            return -1;
        }
        if (fam == null) {
            return 0;
        }
        return new int[] {fam.years, state.law(), fam.fare, fam.people.size(), fam.plans.size(),
            fam.buys.size() + state.buys().size(), fam.secrets.size(), fam.hides.size(), fam.diaries.size(),
            state.seed(), ahead.size(), marks.size()}[what];
    }

    int trouble() {
        return trouble;
    }
}
