import java.util.ArrayList;
import java.util.List;

/** All that an object answers, a line for each call, so that two objects can be held against each other. */
final class Answers {
    private final ElderTurn x;
    private final List<String> lines = new ArrayList<>();

    private Answers(ElderTurn x) {
        this.x = x;
    }

    /** Ends with undoing, marks and the tape: the object is another one behind it. */
    static List<String> of(ElderTurn x) {
        Answers a = new Answers(x);
        a.add("fault", x.fault());
        a.told();
        a.years();
        a.all();
        a.others();
        a.past();
        a.tape();
        return a.lines;
    }

    /** What the years and all that is found from them answer, but not what can be undone, marks, or the tape. */
    static List<String> ofYears(ElderTurn x) {
        Answers a = new Answers(x);
        a.years();
        a.all();
        a.others();
        for (int p = 0; p < x.size(3); p++) {
            a.add("dies " + p, x.person(p, 6));
            a.add("first(" + p + ")", x.first(p));
            a.add("last(" + p + ")", x.last(p));
            a.add("harmOf(" + p + ")", x.harmOf(p));
            a.add("soonest(0, " + p + ")", x.soonest(0, p));
        }
        a.add("law", x.size(1));
        a.add("bought", x.size(5));
        a.add("seed", x.size(9));
        return a.lines;
    }

    private void add(String call, long answer) {
        lines.add(call + " = " + answer);
    }

    private void told() {
        for (int what = -1; what <= 13; what++) {
            add("size(" + what + ")", x.size(what));
        }
        for (int p = 0; p < x.size(3); p++) {
            for (int what = 0; what < 7; what++) {
                add("person(" + p + ", " + what + ")", x.person(p, what));
            }
        }
        for (int i = 0; i < x.size(4); i++) {
            for (int what = 0; what < 4; what++) {
                add("plan(" + i + ", " + what + ")", x.plan(i, what));
            }
        }
        for (int s = 0; s < x.size(6); s++) {
            add("secret(" + s + ")", x.secret(s));
            add("know(" + s + ")", x.know(s));
        }
    }

    private void years() {
        for (int year = 0; year < x.size(0); year++) {
            add("elder(" + year + ")", x.elder(year));
            add("there(" + year + ")", x.there(year));
            add("can(" + year + ")", x.can(year));
            add("box(" + year + ")", x.box(year));
            add("harm(" + year + ")", x.harm(year));
            add("empty(" + year + ")", x.empty(year));
            for (int p = 0; p < x.size(3); p++) {
                add("knows(" + p + ", " + year + ")", x.knows(p, year));
            }
            for (int s = 0; s < x.size(6); s++) {
                add("kept(" + s + ", " + year + ")", x.kept(s, year));
            }
        }
    }

    private void all() {
        add("harmAll()", x.harmAll());
        add("fair()", x.fair());
        add("deaths()", x.deaths());
        for (int p = 0; p < x.size(3); p++) {
            add("purse(" + p + ")", x.purse(p));
            add("turnsOf(" + p + ", 3)", x.turnsOf(p, 3));
            add("strength(" + p + ", 3)", x.strength(p, 3));
            add("power(" + p + ")", x.power(p));
            add("chain(0, " + p + ")", x.chain(0, p));
        }
        for (int i = 0; i < 2; i++) {
            add("led(" + i + ")", Checks.led(x, i));
        }
    }

    private void others() {
        for (int law = 0; law < 5; law++) {
            add("byLaw(" + law + ", 0)", x.byLaw(law, 0));
        }
        for (int n = 1; n <= 4; n++) {
            add("row(" + n + ")", x.row(n));
            add("rowAt(" + n + ", " + (n - 1) + ")", x.rowAt(n, n - 1));
        }
        add("bestLaw(0)", x.bestLaw(0));
        add("trade(0, 1)", x.trade(0, 1));
        add("bestTrade()", x.bestTrade());
        add("fits()", x.fits());
        add("seeds(200)", x.seeds(200));
        add("firstSeed(200)", x.firstSeed(200));
        add("stands(4, false)", x.stands(4, false));
        add("stands(4, true)", x.stands(4, true));
        add("mean(0, 65536, 9)", x.mean(0, 65536, 9));
    }

    private void past() {
        for (int i = 0; i < 13; i++) {
            add("undo()", x.undo() ? 1 : 0);
            now();
        }
        for (int mark = 0; mark < 3; mark++) {
            add("back(" + mark + ")", x.back(mark) ? 1 : 0);
            now();
        }
    }

    private void now() {
        add("law", x.size(1));
        add("bought", x.size(5));
        add("seed", x.size(9));
        add("acts", x.size(10));
        add("marks", x.size(11));
        add("dies", x.person(0, 6));
        add("elder(1)", x.elder(1));
    }

    private void tape() {
        int n = x.size(12);
        add("feed", x.feed(1, 2, 3, 4, 5));
        add("family(" + n + ")", x.family(n));
        add("its fault", x.fault());
        add("its place", x.where());
        add("its years", x.size(0));
    }
}
