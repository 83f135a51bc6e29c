import java.nio.charset.StandardCharsets;
import java.util.ArrayList;
import java.util.List;
import java.util.NoSuchElementException;
import java.util.Random;

/** Many runs of calls by chance, the same ones each time, whose answers must be those of the plain model. */
final class SecondOpinionTest {
    private static int wrong = 0;
    private static int calls = 0;

    public static void main(String[] args) {
        int runs = args.length > 1 ? Integer.parseInt(args[1]) : 700;
        for (int run = 0; run < runs && wrong < 20; run++) {
            oneRun(run);
        }
        System.out.println(calls + " calls, " + wrong + " answered otherwise than by the model");
        if (wrong != 0) {
            System.exit(1);
        }
    }

    private static void oneRun(int run) {
        Random r = new Random(run);
        ElderTurn x = new ElderTurn();
        PlainModel m = new PlainModel();
        boolean isSmall = run % 8 != 0;
        List<String> told = new ArrayList<>();
        for (int i = 0; i < 4; i++) {
            same(run, told, "row/chain without a family", x, m, r, 22, isSmall);
        }
        for (int round = 0; round < 3; round++) {
            String text = RandomTexts.text(r, isSmall ? 1 + r.nextInt(5) : run % 16 == 0 ? 10 : 1 + r.nextInt(10));
            if (r.nextInt(3) == 0) {
                text = RandomTexts.broken(r, text);
            }
            byte[] bytes = text.getBytes(StandardCharsets.ISO_8859_1);
            told.add("family '" + text + "'");
            for (int from = 0; from < bytes.length; from += 20) {
                int[] n = Texts.numbers(bytes, from);
                due(told, "feed", x.feed(n[0], n[1], n[2], n[3], n[4]), m.feed(n[0], n[1], n[2], n[3], n[4]));
            }
            int n = r.nextInt(12) == 0 ? r.nextInt(bytes.length + 40) - 10 : bytes.length;
            told.add("family(" + n + ")");
            due(told, "family", x.family(n), m.family(n));
            due(told, "trouble", x.trouble(), m.trouble());
            due(told, "fault", x.fault(), m.fault());
            due(told, "where", x.where(), m.where());
            for (int i = 0; i < 60; i++) {
                same(run, told, "", x, m, r, r.nextInt(50), isSmall);
            }
        }
    }

    private static void due(List<String> told, String call, long got, long want) {
        calls++;
        if (got != want) {
            wrong++;
            System.out.println(String.join("\n  ", told));
            System.out.println("  " + call + " answered " + got + ", by the model " + want);
        }
    }

    private static int any(Random r, int bound) {
        int v = r.nextInt(40);
        return v == 0 ? -1 : v == 1 ? bound : v == 2 ? Integer.MIN_VALUE : v == 3 ? Integer.MAX_VALUE
                : r.nextInt(Math.max(1, bound));
    }

    private static void same(int run, List<String> told, String note, ElderTurn x, PlainModel m, Random r, int which,
            boolean isSmall) {
        int people = m.size(3) + 1;
        int years = m.size(0);
        int p = any(r, people - 1);
        int q = any(r, people - 1);
        int year = any(r, years);
        int s = any(r, m.size(6));
        int what = any(r, 8);
        int law = any(r, 5);
        int n = isSmall ? any(r, 5) : 1 + r.nextInt(2);
        String call = "call " + which + " p " + p + " q " + q + " year " + year + " s " + s + " what " + what + " law "
                + law + " n " + n;
        told.add(call);
        switch (which) {
            case 0 -> due(told, call, x.person(p, what), m.person(p, what));
            case 1 -> due(told, call, x.plan(p, what), m.plan(p, what));
            case 2 -> due(told, call, x.secret(s), m.secret(s));
            case 3 -> due(told, call, x.elder(year), m.elder(year));
            case 4 -> due(told, call, x.empty(year), m.empty(year));
            case 5 -> due(told, call, x.there(year), m.there(year));
            case 6 -> due(told, call, x.can(year), m.can(year));
            case 7 -> due(told, call, x.age(p, year), m.age(p, year));
            case 8 -> due(told, call, x.turnsOf(p, year), m.turnsOf(p, year));
            case 9 -> due(told, call, x.strength(p, year), m.strength(p, year));
            case 10 -> due(told, call, x.knows(p, year), m.knows(p, year));
            case 11 -> due(told, call, x.box(year), m.box(year));
            case 12 -> due(told, call, x.kept(s, year), m.kept(s, year));
            case 13 -> due(told, call, x.harm(year), m.harm(year));
            case 14 -> due(told, call, x.harmAll(), m.harmAll());
            case 15 -> due(told, call, x.harmOf(p), m.harmOf(p));
            case 16 -> due(told, call, x.purse(p), m.purse(p));
            case 17 -> due(told, call, x.first(p), m.first(p));
            case 18 -> due(told, call, x.last(p), m.last(p));
            case 19 -> due(told, call, x.fair(), m.fair());
            case 20 -> due(told, call, x.deaths(), m.deaths());
            case 21 -> due(told, call, x.soonest(s, p), m.soonest(s, p));
            case 22 -> due(told, call, x.know(s), m.know(s));
            case 23 -> due(told, call, x.byLaw(law, what / 2), m.byLaw(law, what / 2));
            case 24 -> due(told, call, x.bestLaw(what / 2), m.bestLaw(what / 2));
            case 25 -> due(told, call, x.row(n), m.row(n));
            case 26 -> due(told, call, x.rowAt(n, q), m.rowAt(n, q));
            case 27 -> {
                if (isSmall) {
                    due(told, call, x.chain(s, p), m.chain(s, p));
                }
            }
            case 28 -> due(told, call, x.trade(p, q), m.trade(p, q));
            case 29 -> due(told, call, x.bestTrade(), m.bestTrade());
            case 30 -> due(told, call, x.fits(), m.fits());
            case 31 -> {
                int v = any(r, 201);
                due(told, call + " v " + v, x.seeds(v), m.seeds(v));
            }
            case 32 -> {
                int v = any(r, 201);
                due(told, call + " v " + v, x.firstSeed(v), m.firstSeed(v));
            }
            case 33 -> due(told, call, x.power(p), m.power(p));
            case 34 -> {
                int t = any(r, 9);
                due(told, call + " t " + t, x.stands(t, q % 2 == 0), m.stands(t, q % 2 == 0));
            }
            case 35 -> {
                int v = r.nextBoolean() ? 65530 + r.nextInt(7) : any(r, 65537);
                int many = any(r, 51);
                due(told, call + " v " + v, x.mean(p, v, many), m.mean(p, v, many));
            }
            case 36, 37, 38 -> {
                int price = any(r, 100);
                due(told, call + " price " + price, x.buy(year, p, q, price) ? 1 : 0, m.buy(year, p, q, price) ? 1 : 0);
            }
            case 39, 40, 41 -> {
                int dies = r.nextInt(3) == 0 ? -2 : year;
                due(told, call + " dies " + dies, x.death(p, dies) ? 1 : 0, m.death(p, dies) ? 1 : 0);
            }
            case 42 -> due(told, call, x.law(law) ? 1 : 0, m.law(law) ? 1 : 0);
            case 43 -> {
                int v = any(r, 65537);
                due(told, call + " v " + v, x.seed(v) ? 1 : 0, m.seed(v) ? 1 : 0);
            }
            case 44, 45 -> due(told, call, x.undo() ? 1 : 0, m.undo() ? 1 : 0);
            case 46 -> due(told, call, x.mark(), m.mark());
            case 47 -> {
                int mark = any(r, 3);
                due(told, call + " mark " + mark, x.back(mark) ? 1 : 0, m.back(mark) ? 1 : 0);
            }
            case 48 -> due(told, call, led(x, q), led(m, q));
            default -> {
                int size = any(r, 13);
                due(told, call + " size " + size, x.size(size), m.size(size));
            }
        }
        due(told, call + ": trouble", x.trouble(), m.trouble());
        due(told, call + ": where", x.where(), m.where());
    }

    private static int led(ElderTurn x, int i) {
        try {
            return x.led(i);
        } catch (NoSuchElementException none) {
            return -99;
        }
    }

    private static int led(PlainModel m, int i) {
        try {
            return m.led(i);
        } catch (NoSuchElementException none) {
            return -99;
        }
    }
}
