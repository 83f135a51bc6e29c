import java.util.Random;

/** Texts of families by chance: whole ones, and ones with a fault in them. */
final class RandomTexts {
    private static final String[] LAWS = {"round", "eldest", "youngest", "lot", "vote"};
    private static final String[] KINDS = {"plain", "soldier", "cousin", "twin", "keen"};
    private static final String[] PIECES = {"family", "person", "plan", "dies", "buys", "secret", "hides", "diary",
        "not", ";", " ", "0", "99", "100", "1000", "a", "b", "zz", "abcdefghi", "A", "-", "\n", "born", "age", "to",
        "price", "left", "harm", ";;", "24", "\u00e9", "\u0000"};

    private RandomTexts() {
    }

    static String text(Random r, int people) {
        int years = 4 + r.nextInt(r.nextBoolean() ? 6 : 21);
        StringBuilder t = new StringBuilder();
        t.append("family years ").append(years).append(" law ").append(LAWS[r.nextInt(5)]).append(" fare ")
                .append(r.nextInt(100));
        boolean isPlain = r.nextInt(4) == 0;
        for (int p = 0; p < people; p++) {
            String kind = isPlain ? "plain" : KINDS[r.nextInt(5)];
            boolean isBorn = r.nextInt(4) == 0;
            int age = kind.equals("soldier") ? 15 + r.nextInt(25) : r.nextInt(r.nextBoolean() ? 91 : 4);
            t.append(";person ").append(person(p)).append(' ').append(kind).append(" branch ")
                    .append(r.nextBoolean() ? "left" : "right").append(isBorn ? " born " : " age ")
                    .append(isBorn ? 1 + r.nextInt(years - 1) : age).append(" strong ")
                    .append(1 + r.nextInt(r.nextBoolean() ? 9 : 3)).append(" weighs ").append(r.nextInt(10))
                    .append(" frail ").append(r.nextInt(5) == 0 ? 100 : r.nextInt(101));
        }
        for (int i = r.nextInt(people > 8 ? 3 : 8); i > 0; i--) {
            int from = r.nextInt(years);
            t.append(";plan ").append(person(r.nextInt(people))).append(' ').append(from).append(" to ")
                    .append(from + r.nextInt(years - from)).append(" harm ").append(1 + r.nextInt(99));
        }
        for (int p = 0; p < people; p++) {
            if (r.nextInt(5) == 0) {
                t.append(";dies ").append(person(p)).append(' ').append(r.nextInt(years));
            }
        }
        for (int i = people < 2 || people > 8 ? 0 : r.nextInt(5); i > 0; i--) {
            int p = r.nextInt(people);
            t.append(";buys ").append(r.nextInt(years)).append(' ').append(person(p)).append(' ')
                    .append(person((p + 1 + r.nextInt(people - 1)) % people)).append(" price ").append(r.nextInt(100));
        }
        appendSecrets(r, t, people);
        for (int i = people > 8 ? 0 : r.nextInt(3); i > 0; i--) {
            t.append(r.nextInt(3) == 0 ? ";diary " : ";not ").append(r.nextInt(years)).append(' ')
                    .append(person(r.nextInt(people)));
        }
        return t.length() > 1100 ? text(r, people - 1) : t.toString();
    }

    private static void appendSecrets(Random r, StringBuilder t, int people) {
        int secrets = people > 8 ? 0 : r.nextInt(4);
        for (int s = 0; s < secrets; s++) {
            t.append(";secret s").append((char) ('a' + s)).append(' ').append(person(r.nextInt(people)));
            int p = r.nextInt(people);
            for (int q = 0; q < people; q++) {
                if (q != p && r.nextInt(2) == 0 && t.length() < 900 && s < 2 && q < 4) {
                    t.append(";hides ").append(person(p)).append(" s").append((char) ('a' + s)).append(' ')
                            .append(person(q));
                }
            }
        }
    }

    private static String person(int p) {
        return "" + (char) ('a' + p);
    }

    static String broken(Random r, String text) {
        StringBuilder t = new StringBuilder(text);
        for (int i = 1 + r.nextInt(2); i > 0; i--) {
            int at = r.nextInt(t.length());
            switch (r.nextInt(4)) {
                case 0 -> t.delete(at, Math.min(t.length(), at + 1 + r.nextInt(12)));
                case 1 -> t.insert(at, PIECES[r.nextInt(PIECES.length)]);
                case 2 -> t.insert(at, " " + PIECES[r.nextInt(PIECES.length)] + " ");
                default -> t.replace(at, Math.min(t.length(), at + 1), PIECES[r.nextInt(PIECES.length)]);
            }
        }
        String whole = t.length() > 1100 ? t.substring(0, 1100) : t.toString();
        return whole.isEmpty() ? " " : whole;
    }
}
