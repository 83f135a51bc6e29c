import java.util.List;
import java.util.Set;

/** THE TAPE and THE TEXT of a FAMILY: each bound, each fault, and where it is. Promises 2 to 5 and Terms I. */
final class TextEdgesTest extends Checks {
    /** Lines that go on from one another, so that each token of each sort of line has its turn. */
    private static final String[] LINES = {
        "family years 5 law lot fare 0",
        "person a plain branch left age 1 strong 1 weighs 0 frail 0",
        "person b keen branch right born 1 strong 1 weighs 0 frail 0",
        "secret s a",
        "plan a 0 to 1 harm 1",
        "dies b 2",
        "buys 0 a b price 1",
        "hides a s b",
        "diary 0 a",
        "not 0 b"};
    private static final List<String> LINE_WORDS = List.of("family", "person", "plan", "dies", "buys", "secret", "hides",
            "diary", "not");
    private static final Set<String> NAMES = Set.of("a", "b", "s");
    private static final String TWO = LINES[0] + ";" + LINES[1] + ";" + LINES[2] + ";" + LINES[3];

    public static void main(String[] args) {
        tapeHas1100Bytes();
        theLastByteOfTheTapeCounts();
        fourBytesOfEachNumber();
        nBytesOfTheTape();
        everyByteBetweenTokens();
        everyByteAsAToken();
        wordsOf1To8Letters();
        wholesOf1To3Digits();
        tokensMayTouch();
        linesAndSemicolons();
        theEndBehindEachToken();
        wrongTokensInEachPlace();
        moreBehindEachLine();
        wholesInBounds();
        yearsOfAShortAndALongFamily();
        secondYearOfAPlan();
        choices();
        namesAreNoLineWords();
        namesAheadOfTheirUse();
        namesOfAnotherSort();
        namesToldAgain();
        diesOnceForEach();
        unlikePeople();
        hidesEachOnce();
        oneFamilyLine();
        linesAheadOfTheFamily();
        noPerson();
        roomForEachSort();
        sortsHaveRoomOfTheirOwn();
        allRoomAtOnce();
        theFirstFaultFromTheLeft();
        ofOnePlaceTheLeastNumber();
        faultOfTheLatestFamily();
        whereByTheLatestCall();
        end();
    }

    // ---- the tape

    private static void tapeHas1100Bytes() {
        promise = "THE TAPE has 1,100 bytes; NONE, and none comes, if there would be more";
        ElderTurn x = new ElderTurn();
        due("empty at first", x.size(12), 0);
        for (int i = 1; i <= 55; i++) {
            due("feed " + i, x.feed(LOW, HIGH, -1, 0, 1), 20 * i);
            due("size(12)", x.size(12), 20 * i);
        }
        for (int i = 0; i < 3; i++) {
            due("one more", x.feed(1, 1, 1, 1, 1), -1);
            due("none came", x.size(12), 1100);
        }
        due("no trouble by that", x.trouble(), 0);
        no(x, "family(1101)", x.family(1101), 2);
        due("it stays full", x.size(12), 1100);
        due("still no room", x.feed(0, 0, 0, 0, 0), -1);
        no(x, "family(1)", x.family(1), 4);
        due("it is empty then, all of it", x.size(12), 0);
        due("room again", x.feed(0, 0, 0, 0, 0), 20);
    }

    private static void theLastByteOfTheTapeCounts() {
        promise = "THE TAPE has 1,100 bytes: the last one is read";
        String text = LINES[0] + ";" + LINES[1];
        String blanks = " ".repeat(1099 - text.length());
        whole(text + blanks + " ", 1);
        fault(text + blanks + "!", 1, 1099);
        fault(text + blanks + "0", 1, 1099);
        fault(text + blanks + ";", 1, 1100);
        fault(" ".repeat(1100), 1, 1100);
        fault(" ".repeat(1099) + "n", 1, 1099);
        fault(" ".repeat(1094) + "person", 6, 1094);
        whole(" ".repeat(1100 - text.length()) + text, 1);
        ElderTurn x = new ElderTurn();
        Texts.tape(x, (" ".repeat(1100 - text.length()) + text).getBytes());
        due("a refused feed", x.feed(-1, -1, -1, -1, -1), -1);
        yes(x, "leaves what was there as it was", x.family(1100), 1);
    }

    private static void fourBytesOfEachNumber() {
        promise = "Twenty bytes come behind THE TAPE, of each number the highest first";
        String text = "family years 5 law l";
        for (int i = 0; i < 20; i++) {
            ElderTurn x = new ElderTurn();
            byte[] bytes = text.getBytes();
            bytes[i] = '!';
            int[] n = Texts.numbers(bytes, 0);
            due("feed", x.feed(n[0], n[1], n[2], n[3], n[4]), 20);
            no(x, "family(20)", x.family(20), 4);
            boolean insideWord = i < 6 || i > 6 && i < 12 || i > 14 && i < 18;
            int start = i < 6 ? 0 : i < 12 ? 7 : 15;
            // A word that is cut short is another one: the fault is where it begins.
            due("the ! at " + i, x.where(), insideWord ? start : i);
        }
        ElderTurn y = new ElderTurn();
        y.feed(0x66616D69, 0x6C792079, 0x65617273, 0x20332020, 0x20202020);
        no(y, "family years 3", y.family(20), 4);
        due("fault", y.fault(), 4);
        due("where", y.where(), 13);
        ElderTurn z = new ElderTurn();
        z.feed(0x66616D69, 0x6C792079, 0x65617273, 0x20202020, 0x20202020);
        z.feed(0x33202020, 0, 0, 0, 0);
        no(z, "the second feed comes behind the first", z.family(21), 4);
        due("fault", z.fault(), 4);
        due("where", z.where(), 20);
    }

    private static void nBytesOfTheTape() {
        promise = "The first n bytes of THE TAPE (it is empty then) are the FAMILY from now on";
        String text = LINES[0] + ";" + LINES[1];
        int n = text.length();
        for (int v : new int[] {LOW, LOW + 1, -20, -1, 101, 102, 120, 1100, 1101, HIGH - 1, HIGH}) {
            ElderTurn x = new ElderTurn();
            Texts.tape(x, text.getBytes());
            due("bytes", x.size(12), 100);
            no(x, "family(" + v + ")", x.family(v), 2);
            due("THE TAPE stays", x.size(12), 100);
            due("fault", x.fault(), 0);
            due("where", x.where(), -1);
            yes(x, "and can be read", x.family(n), 1);
            due("it is empty then", x.size(12), 0);
        }
        ElderTurn all = new ElderTurn();
        Texts.tape(all, text.getBytes());
        yes(all, "all bytes, blanks too", all.family(100), 1);
        ElderTurn none = new ElderTurn();
        no(none, "0 bytes of an empty tape", none.family(0), 4);
        due("where", none.where(), 0);
        no(none, "1 byte of an empty tape", none.family(1), 2);
        no(none, "-1 byte of an empty tape", none.family(-1), 2);
        Texts.tape(none, text.getBytes());
        no(none, "0 bytes of a tape", none.family(0), 4);
        due("it is empty then", none.size(12), 0);
        ElderTurn cut = new ElderTurn();
        Texts.tape(cut, text.getBytes());
        no(cut, "one byte less", cut.family(n - 1), 4);
        due("the end's place", cut.where(), n - 1);
        Texts.tape(cut, "!!!!!!!!!!!!!!!!!!!!".getBytes());
        no(cut, "the next bytes come at its beginning", cut.family(20), 4);
        due("where", cut.where(), 0);
    }

    // ---- tokens

    private static void everyByteBetweenTokens() {
        promise = "blanks, 32, part TOKENS and mean nothing else";
        String rest = "years 5 law lot fare 0;" + LINES[1];
        for (int b = 0; b < 256; b++) {
            String text = "family" + (char) b + rest;
            if (b == ' ') {
                whole(text, 1);
            } else {
                // A letter joins both words to one of more than 8 letters.
                fault(text, 1, b >= 'a' && b <= 'z' ? 0 : 6);
            }
        }
    }

    private static void everyByteAsAToken() {
        promise = "the first byte that begins no TOKEN";
        for (int b = 0; b < 256; b++) {
            if (b == ' ') {
                continue;
            }
            char c = (char) b;
            fault(c + "", 1, 0);
            fault("  " + c + " family", 1, 2);
            fault(LINES[0] + ";" + LINES[1] + " " + c, 1, b == ';' ? 90 : 89);
            String named = LINES[0] + ";person " + c + LINES[1].substring(8);
            if (c >= 'a' && c <= 'z') {
                whole(named, 1);
            } else {
                fault(named, 1, 37);
            }
            String aged = LINES[0] + ";" + LINES[1].replace("age 1", "age " + c);
            if (c >= '0' && c <= '9') {
                whole(aged, 1);
            } else {
                fault(aged, 1, 61);
            }
        }
    }

    private static void wordsOf1To8Letters() {
        promise = "WORDS of 1 to 8 small letters that stand together";
        for (int many = 1; many <= 30; many++) {
            String name = "abcdefghijklmnopqrstuvwxyzabcd".substring(0, many);
            String text = LINES[0] + ";person " + name + LINES[1].substring(8);
            if (many <= 8) {
                whole(text, 1);
            } else {
                fault(text, 1, 37);
            }
        }
        // Names that begin alike, or differ in their last letter alone, are other names.
        String like = LINES[0] + plain("abcdefgh", 1) + plain("abcdefgi", 1) + plain("abcdefg", 1) + plain("bbcdefgh", 1);
        whole(like + ";dies abcdefg 1;dies abcdefgh 2;dies abcdefgi 3;dies bbcdefgh 4", 4);
        fault(like + ";dies abcdef 1", 2, like.length() + 6);
        fault(like + plain("abcdefgi", 1), 3, like.length() + 8);
        ElderTurn x = Texts.of(like + ";dies abcdefgi 3");
        due("that one alone", x.person(0, 6), -2);
        due("that one alone", x.person(1, 6), 3);
        due("that one alone", x.person(2, 6), -2);
    }

    private static void wholesOf1To3Digits() {
        promise = "WHOLES of 1 to 3 digits that do";
        String rest = " law lot fare 0;" + LINES[1];
        for (String five : new String[] {"5", "05", "005"}) {
            whole("family years " + five + rest, 1);
        }
        for (String more : new String[] {"0005", "1000", "00000000005", "4294967301", "99999999999999999999"}) {
            fault("family years " + more + rest, 1, 13);
        }
        fault("family years 5 5" + rest, 1, 15);
        fault("family years 999" + rest, 4, 13);
        fault("family years 000" + rest, 4, 13);
        fault("family years -5" + rest, 1, 13);
        fault("family years +5" + rest, 1, 13);
    }

    private static void tokensMayTouch() {
        promise = "TOKENS: letters that stand together, digits that do, single ones of ;";
        whole("family years5law lot fare0;person a plain branch left age1strong1weighs0frail0;dies a4", 1);
        whole("family years 5 law lot fare 0 ; person a plain branch left age 1 strong 1 weighs 0 frail 0", 1);
        fault(TWO + ";dies a4b", 1, TWO.length() + 8);
        fault(TWO + ";dies 4a", 1, TWO.length() + 6);
        fault("fam ily years 5", 1, 0);
        fault("family years 5 law lot fare 0 0", 1, 30);
    }

    private static void linesAndSemicolons() {
        promise = "LINE {; LINE}";
        int n = TWO.length();
        whole(TWO, 2);
        fault(TWO + ";", 1, n + 1);
        fault(TWO + ";  ", 1, n + 3);
        fault(TWO + ";;", 1, n + 1);
        fault(TWO + ";;dies a 1", 1, n + 1);
        fault(";" + TWO, 1, 0);
        fault(TWO + " dies a 1", 1, n + 1);
        fault(LINES[0] + " " + LINES[1], 1, 30);
        fault("family;years 5", 1, 6);
    }

    // ---- each token of each line

    private static String ahead(int line, String[] tokens, int many) {
        StringBuilder text = new StringBuilder();
        for (int i = 0; i < line; i++) {
            text.append(LINES[i]).append(';');
        }
        for (int j = 0; j < many; j++) {
            text.append(tokens[j]).append(j < many - 1 ? " " : "");
        }
        return text.toString();
    }

    private static void theEndBehindEachToken() {
        promise = "1 FORM: TOKEN with which no FAMILY goes on (the end: its place)";
        for (int line = 0; line < LINES.length; line++) {
            String[] tokens = LINES[line].split(" ");
            for (int many = 0; many < tokens.length; many++) {
                String text = ahead(line, tokens, many);
                fault(text, 1, text.length());
                fault(text + "   ", 1, text.length() + 3);
            }
            String text = ahead(line, tokens, tokens.length);
            if (line == 0) {
                fault(text, 6, text.length());
            } else {
                whole(text, line == 1 ? 1 : 2);
            }
        }
    }

    private static void wrongTokensInEachPlace() {
        promise = "1 FORM, 2 a NAME that isn't told: each TOKEN of each LINE";
        for (int line = 0; line < LINES.length; line++) {
            String[] tokens = LINES[line].split(" ");
            for (int j = 0; j < tokens.length; j++) {
                String text = ahead(line, tokens, j) + (j > 0 ? " " : "");
                int at = text.length();
                for (String bad : new String[] {"!", ";", "abcdefghi", "1000", "A", "\u0000", "\u00ff", "\t"}) {
                    fault(text + bad, 1, at);
                    fault(text + bad + " " + tokens[j], 1, at);
                }
                boolean isWhole = Character.isDigit(tokens[j].charAt(0));
                boolean isName = NAMES.contains(tokens[j]);
                boolean isNew = j == 1 && (tokens[0].equals("person") || tokens[0].equals("secret"));
                if (!isWhole) {
                    fault(text + "1", 1, at);
                }
                if (!isName) {
                    fault(text + "zz", 1, at);
                }
                if (!isName && !isWhole) {
                    fault(text + tokens[j] + "x", 1, at);
                }
                if (isName && !isNew) {
                    fault(text + "zz", 2, at);
                    fault(text + "zz !", 2, at);
                }
                for (String word : LINE_WORDS) {
                    if (j > 0) {
                        fault(text + word, 1, at);
                    }
                }
            }
        }
    }

    private static void moreBehindEachLine() {
        promise = "1 FORM: a TOKEN behind a whole LINE";
        for (int line = 0; line < LINES.length; line++) {
            String[] tokens = LINES[line].split(" ");
            String text = ahead(line, tokens, tokens.length);
            for (String more : new String[] {"a", "1", "!", "plan", "family", "abcdefghi"}) {
                fault(text + " " + more, 1, text.length() + 1);
            }
        }
    }

    // ---- bounds

    /** Each whole from 0 to 999 where the # stands: whole, or fault 4 at it. */
    private static void bounds(String ahead, String line, int least, int most) {
        String text = ahead.isEmpty() ? line : ahead + ";" + line;
        int at = text.indexOf('#');
        for (int v = 0; v <= 999; v++) {
            String told = text.replace("#", "" + v);
            if (v >= least && v <= most) {
                ElderTurn x = new ElderTurn();
                due("'" + told + "'", Texts.family(x, told) > 0, true);
                due("'" + told + "': fault", x.fault(), 0);
            } else {
                fault(told, 4, at);
            }
        }
        for (int v : new int[] {least, most}) {
            whole(text.replace("#", "00".substring(0, 3 - ("" + v).length()) + v), ahead.isEmpty() ? 1 : 3);
        }
        for (int v : new int[] {least - 1, most + 1}) {
            if (v >= 0) {
                // Nothing behind it is looked at.
                fault(text.substring(0, at) + v, 4, at);
                fault(text.substring(0, at) + v + " !", 4, at);
            }
        }
    }

    private static void wholesInBounds() {
        promise = "4 a WHOLE out of bounds; at it";
        String c = ";person c plain branch left age 1 strong 1 weighs 0 frail 0";
        bounds("", "family years # law lot fare 0;person a plain branch left age 1 strong 1 weighs 0 frail 0", 4, 24);
        bounds("", "family years 5 law lot fare #;person a plain branch left age 1 strong 1 weighs 0 frail 0", 0, 99);
        bounds(TWO, "person c plain branch left age # strong 1 weighs 0 frail 0", 0, 90);
        bounds(TWO, "person c plain branch left born # strong 1 weighs 0 frail 0", 1, 4);
        bounds(TWO, "person c plain branch left age 1 strong # weighs 0 frail 0", 1, 9);
        bounds(TWO, "person c plain branch left age 1 strong 1 weighs # frail 0", 0, 9);
        bounds(TWO, "person c plain branch left age 1 strong 1 weighs 0 frail #", 0, 100);
        bounds(TWO + c, "plan a # to 4 harm 1", 0, 4);
        bounds(TWO + c, "plan a 0 to # harm 1", 0, 4);
        bounds(TWO + c, "plan a 0 to 4 harm #", 1, 99);
        bounds(TWO + c, "dies a #", 0, 4);
        bounds(TWO + c, "buys # a b price 1", 0, 4);
        bounds(TWO + c, "buys 1 a b price #", 0, 99);
        bounds(TWO + c, "diary # a", 0, 4);
        bounds(TWO + c, "not # a", 0, 4);
    }

    private static void yearsOfAShortAndALongFamily() {
        promise = "a year: 0 up to years less 1";
        for (int years : new int[] {4, 24}) {
            String known = head(years, "lot", 0) + plain("a", 1) + plain("b", 1);
            int n = known.length();
            int last = years - 1;
            whole(known + someone("c", "plain", "left", "born " + last, 1), 3);
            fault(known + someone("c", "plain", "left", "born " + years, 1), 4, n + 33);
            whole(known + ";plan a " + last + " to " + last + " harm 1;dies a " + last + ";buys " + last
                    + " a b price 0;diary " + last + " a;not " + last + " b", 2);
            fault(known + ";plan a " + years, 4, n + 8);
            fault(known + ";plan a 0 to " + years, 4, n + 13);
            fault(known + ";dies a " + years, 4, n + 8);
            fault(known + ";buys " + years, 4, n + 6);
            fault(known + ";diary " + years, 4, n + 7);
            fault(known + ";not " + years, 4, n + 5);
        }
    }

    private static void secondYearOfAPlan() {
        promise = "years, the second not below the first";
        int n = TWO.length();
        for (int from = 0; from < 5; from++) {
            for (int to = 0; to < 5; to++) {
                String text = TWO + ";plan a " + from + " to " + to + " harm 1";
                if (to >= from) {
                    whole(text, 2);
                } else {
                    fault(text, 4, n + 13);
                }
            }
        }
    }

    private static void choices() {
        promise = "LAW, KIND, SIDE, AGE: one of";
        String[] laws = {"round", "eldest", "youngest", "lot", "vote"};
        for (int law = 0; law < 5; law++) {
            due(laws[law], Texts.of(head(4, laws[law], 0) + plain("a", 1)).size(1), law);
        }
        String[] kinds = {"plain", "soldier", "cousin", "twin", "keen"};
        for (int kind = 0; kind < 5; kind++) {
            due(kinds[kind], Texts.of(head(4, "lot", 0) + someone("a", kinds[kind], "left", "age 1", 1)).person(0, 0), kind);
        }
        String[] sides = {"left", "right"};
        for (int side = 0; side < 2; side++) {
            due(sides[side], Texts.of(head(4, "lot", 0) + someone("a", "plain", sides[side], "age 1", 1)).person(0, 1), side);
        }
        for (String law : new String[] {"roun", "rounds", "old", "lots", "lo", "votes", "eldes", "plain", "family", "0"}) {
            fault("family years 5 law " + law + " fare 0", 1, 19);
        }
        for (String kind : new String[] {"plai", "plains", "soldiers", "cousins", "twins", "keenly", "round", "left", "0"}) {
            fault(LINES[0] + ";person a " + kind + " branch left", 1, 39);
        }
        for (String side : new String[] {"lef", "lefts", "rights", "up", "middle", "0"}) {
            fault(LINES[0] + ";person a plain branch " + side + " age 1", 1, 52);
        }
        for (String age : new String[] {"ag", "ages", "borne", "bor", "0"}) {
            fault(LINES[0] + ";person a plain branch left " + age + " 1", 1, 57);
        }
    }

    // ---- names

    private static void namesAreNoLineWords() {
        promise = "NAMES are WORDS but family, person, plan, dies, buys, secret, hides, diary, not";
        int n = TWO.length();
        for (String word : LINE_WORDS) {
            fault(TWO + ";person " + word + LINES[1].substring(8), 1, n + 8);
            fault(TWO + ";secret " + word + " a", 1, n + 8);
            whole(TWO + ";person " + word + "x" + LINES[1].substring(8), 3);
            String less = word.substring(0, word.length() - 1);
            whole(TWO + ";secret " + less + " a", 2);
        }
        for (String word : ("years law fare round eldest youngest lot vote plain soldier cousin twin keen branch left right"
                + " age born strong weighs frail to harm price").split(" ")) {
            whole(TWO + ";person " + word + LINES[1].substring(8) + ";dies " + word + " 1", 3);
            whole(TWO + ";secret " + word + " a;hides a " + word + " b", 2);
        }
    }

    private static void namesAheadOfTheirUse() {
        promise = "NAMES: each told ahead of its use; 2 a NAME that isn't told; at it";
        String head = LINES[0];
        int n = head.length();
        fault(head + ";plan a 0 to 1 harm 1;" + LINES[1], 2, n + 6);
        fault(head + ";dies a 1;" + LINES[1], 2, n + 6);
        fault(head + ";buys 0 a b price 1;" + LINES[1], 2, n + 8);
        fault(head + ";secret s a;" + LINES[1], 2, n + 10);
        fault(head + ";hides a s b;" + LINES[1], 2, n + 7);
        fault(head + ";diary 0 a;" + LINES[1], 2, n + 9);
        fault(head + ";not 0 a;" + LINES[1], 2, n + 7);
        String one = head + ";" + LINES[1];
        int m = one.length();
        fault(one + ";buys 0 a b price 1;" + LINES[2], 2, m + 10);
        fault(one + ";hides a s b;secret s a", 2, m + 9);
        fault(one + ";secret s s", 2, m + 10);
        fault(one + ";secret s a;hides a s b;" + LINES[2], 2, m + 22);
        // Told by a text ahead of this one isn't told by this one.
        ElderTurn x = Texts.of(TWO);
        no(x, "a, of the family ahead", Texts.family(x, head + ";dies a 1"), 4);
        due("fault", x.fault(), 2);
        Texts.tape(x, (TWO + ";odd").getBytes());
        no(x, "a faulty text", x.family((TWO + ";odd").length()), 4);
        no(x, "a, of the faulty text", Texts.family(x, head + ";dies a 1"), 4);
        due("fault", x.fault(), 2);
        due("where", x.where(), n + 6);
    }

    private static void namesOfAnotherSort() {
        promise = "2 a NAME of another sort than must stand there; at it";
        int n = TWO.length();
        fault(TWO + ";plan s 0 to 1 harm 1", 2, n + 6);
        fault(TWO + ";dies s 1", 2, n + 6);
        fault(TWO + ";buys 0 s a price 1", 2, n + 8);
        fault(TWO + ";buys 0 a s price 1", 2, n + 10);
        fault(TWO + ";secret t s", 2, n + 10);
        fault(TWO + ";hides s s b", 2, n + 7);
        fault(TWO + ";hides a b b", 2, n + 9);
        fault(TWO + ";hides a a b", 2, n + 9);
        fault(TWO + ";hides a s s", 2, n + 11);
        fault(TWO + ";diary 0 s", 2, n + 9);
        fault(TWO + ";not 0 s", 2, n + 7);
    }

    private static void namesToldAgain() {
        promise = "NAMES: each told once; 3 a NAME told again; at it";
        int n = TWO.length();
        for (String name : NAMES) {
            fault(TWO + ";person " + name + LINES[1].substring(8), 3, n + 8);
            fault(TWO + ";person " + name, 3, n + 8);
            fault(TWO + ";person " + name + " odd", 3, n + 8);
            fault(TWO + ";secret " + name + " a", 3, n + 8);
            fault(TWO + ";secret " + name + " zz", 3, n + 8);
        }
        // A new family may tell the same names.
        ElderTurn x = Texts.of(TWO);
        yes(x, "told anew", Texts.family(x, TWO), 2);
    }

    private static void diesOnceForEach() {
        promise = "dies PERSON WHOLE (a year; once for each); 3 a PERSON who dies already; at it";
        int n = TWO.length();
        whole(TWO + ";dies a 0;dies b 0", 2);
        fault(TWO + ";dies a 0;dies a 0", 3, n + 15);
        fault(TWO + ";dies a 4;dies b 4;dies b 3", 3, n + 24);
        fault(TWO + ";dies a 4;dies a", 3, n + 15);
        fault(TWO + ";dies a 4;dies a 9", 3, n + 15);
        ElderTurn x = Texts.of(TWO + ";dies a 0");
        yes(x, "a new family lets him die anew", Texts.family(x, TWO + ";dies a 1"), 2);
        yes(x, "in its year", x.person(0, 6), 1);
        no(x, "a faulty one", Texts.family(x, TWO + ";dies a 2;odd"), 4);
        yes(x, "a third one", Texts.family(x, TWO + ";dies a 3"), 2);
        yes(x, "in its year", x.person(0, 6), 3);
    }

    private static void unlikePeople() {
        promise = "3 a second PERSON that is the first; at it";
        int n = TWO.length();
        fault(TWO + ";buys 0 a a price 1", 3, n + 10);
        fault(TWO + ";buys 0 b b", 3, n + 10);
        fault(TWO + ";buys 0 b b price 100", 3, n + 10);
        whole(TWO + ";buys 0 a b price 1;buys 0 b a price 1;buys 0 a b price 1", 2);
        fault(TWO + ";hides a s a", 3, n + 11);
        fault(TWO + ";hides b s b", 3, n + 11);
    }

    private static void hidesEachOnce() {
        promise = "3 a second PERSON from whom he hides that already; at it";
        String known = TWO + ";secret t b" + plain("c", 1);
        int n = known.length();
        fault(known + ";hides a s b;hides a s b", 3, n + 23);
        fault(known + ";hides a s b;hides a t b;hides b s a;hides a s c;hides a s b", 3, n + 59);
        whole(known + ";hides a s b;hides a s c;hides a t b;hides b s a;hides b s c;hides c s b", 3);
        due("all of them count", Texts.of(known + ";hides a s b;hides a s c;hides a t b").size(7), 3);
    }

    private static void oneFamilyLine() {
        promise = "3 a second family: at that WORD";
        int n = TWO.length();
        fault(TWO + ";family", 3, n + 1);
        fault(TWO + ";  " + LINES[0], 3, n + 3);
        fault(LINES[0] + ";" + LINES[0], 3, 30);
        fault(LINES[0] + ";family odd", 3, 30);
    }

    private static void linesAheadOfTheFamily() {
        promise = "6 LACKS: any LINE ahead of the family; at its WORD";
        for (int line = 1; line < LINES.length; line++) {
            fault(LINES[line] + ";" + TWO, 6, 0);
            fault("   " + LINES[line], 6, 3);
            fault(LINES[line].split(" ")[0], 6, 0);
            fault(LINES[line].split(" ")[0] + " !", 6, 0);
        }
        fault("families", 1, 0);
        fault("years 5", 1, 0);
    }

    private static void noPerson() {
        promise = "6 LACKS: at the end: no person";
        fault(LINES[0], 6, 29);
        fault(LINES[0] + " ", 6, 30);
        fault(LINES[0] + " ".repeat(1071), 6, 1100);
        whole(LINES[0] + ";" + LINES[1], 1);
    }

    // ---- room

    private static void fills(String known, int people, int room, String[] lines, String... more) {
        StringBuilder text = new StringBuilder(known);
        for (int i = 0; i < room; i++) {
            text.append(lines[i % lines.length].replace('#', (char) ('e' + i)));
        }
        whole(text.toString(), people);
        for (String one : more) {
            fault(text + one, 5, text.length() + 1);
        }
    }

    private static void roomForEachSort() {
        promise = "5 MANY: a LINE more of its sort than there is room for, at its first WORD";
        String person = ";person # plain branch left age 1 strong 1 weighs 0 frail 0";
        fills(LINES[0], 10, 10, new String[] {person}, person.replace('#', 'z'), ";person", ";person !", ";person e",
                ";person not");
        fills(TWO, 2, 12, new String[] {";plan a 0 to 0 harm 1"}, ";plan a 0 to 0 harm 1", ";plan", ";plan zz", ";plan 1");
        fills(TWO, 2, 8, new String[] {";buys 0 a b price 1"}, ";buys 0 a b price 1", ";buys", ";buys 5", ";buys 0 a a");
        fills(LINES[0] + ";" + LINES[1], 1, 8, new String[] {";secret # a"}, ";secret z a", ";secret", ";secret e");
        fills(TWO, 2, 8, new String[] {";diary 0 a"}, ";diary 0 a", ";diary", ";not 0 a", ";not", ";not 5");
        fills(TWO, 2, 8, new String[] {";not 0 a"}, ";diary 0 a", ";diary", ";not 0 a", ";not", ";diary 5");
        fills(TWO, 2, 8, new String[] {";diary 0 a", ";not 0 b"}, ";diary 0 a", ";not 0 a");
        String known = TWO + plain("c", 1);
        StringBuilder hides = new StringBuilder(known + ";secret t a");
        for (String pair : "a s b,a s c,b s a,b s c,c s a,c s b,a t b,a t c".split(",")) {
            hides.append(";hides ").append(pair);
        }
        whole(hides.toString(), 3);
        for (String more : new String[] {";hides b t a", ";hides a s b", ";hides", ";hides zz", ";hides a s a"}) {
            fault(hides + more, 5, hides.length() + 1);
        }
    }

    private static void sortsHaveRoomOfTheirOwn() {
        promise = "5 MANY: of its sort";
        String full = TWO + ";buys 0 a b price 1".repeat(8) + ";diary 0 a".repeat(8);
        whole(full + ";plan a 0 to 0 harm 1;dies a 1;secret t a;hides a s b" + plain("c", 1), 3);
        String plans = TWO + ";plan a 0 to 0 harm 1".repeat(12);
        whole(plans + ";buys 0 a b price 1;not 0 a;dies a 1;dies b 1;secret t a;hides a s b" + plain("c", 1), 3);
        // A line with a fault takes no room; nor does what an earlier text told.
        ElderTurn x = Texts.of(full);
        yes(x, "room anew", Texts.family(x, full), 2);
        no(x, "one too many", Texts.family(x, full + ";not 0 a"), 4);
        yes(x, "room anew", Texts.family(x, full), 2);
        due("bought", x.size(5), 8);
        due("diaries", x.size(8), 8);
    }

    /** All that a family may have at most, on a tape that is full to its last byte. */
    private static void allRoomAtOnce() {
        promise = "up to 10, 12, 8, 8, 8, 8: all on 1,100 bytes";
        StringBuilder text = new StringBuilder("family years4law lot fare0");
        for (int p = 0; p < 10; p++) {
            text.append(";person ").append((char) ('a' + p)).append(" keen branch left age").append(p)
                    .append("strong9weighs9frail").append(p);
        }
        for (int i = 0; i < 12; i++) {
            text.append(";plan ").append((char) ('a' + i % 10)).append(" 0to").append(i % 4).append("harm").append(1 + i % 9);
        }
        for (int i = 0; i < 8; i++) {
            text.append(";buys").append(i % 4).append((char) ('a' + i)).append(' ').append((char) ('b' + i)).append(" price")
                    .append(i);
        }
        for (int s = 0; s < 8; s++) {
            text.append(";secret ").append((char) ('k' + s)).append(' ').append((char) ('a' + s));
        }
        for (int s = 0; s < 8; s++) {
            text.append(";hides j ").append((char) ('k' + s)).append(' ').append((char) ('a' + s));
        }
        for (int i = 0; i < 8; i++) {
            text.append(";not").append(i % 4).append((char) ('a' + i));
        }
        due("bytes", text.length(), 1100);
        ElderTurn x = new ElderTurn();
        yes(x, "family", Texts.family(x, text.toString()), 10);
        int[] sizes = {4, 3, 0, 10, 12, 8, 8, 8, 8, 0, 0, 0, 0};
        for (int what = 0; what < sizes.length; what++) {
            due("size(" + what + ")", x.size(what), sizes[what]);
        }
        for (int p = 0; p < 10; p++) {
            yes(x, "age of " + p, x.person(p, 2), p);
            yes(x, "frail of " + p, x.person(p, 5), p);
        }
        for (int i = 0; i < 12; i++) {
            yes(x, "whose plan " + i, x.plan(i, 0), i % 10);
            yes(x, "last year of plan " + i, x.plan(i, 2), i % 4);
            yes(x, "harm of plan " + i, x.plan(i, 3), 1 + i % 9);
        }
        for (int s = 0; s < 8; s++) {
            yes(x, "secret " + s, x.secret(s), s);
        }
        no(x, "person 10", x.person(10, 0), 1);
        no(x, "plan 12", x.plan(12, 0), 1);
        no(x, "secret 8", x.secret(8), 1);
        for (int i = 0; i < 8; i++) {
            yes(x, "buy " + i, x.buy(3, i, i + 1, 99));
        }
        due("told, and by acts", x.size(5), 16);
        no(x, "one more by acts", x.buy(3, 0, 1, 0), 3);
    }

    // ---- which fault

    private static void theFirstFaultFromTheLeft() {
        promise = "FAULTS, the first that is met from the left";
        int n = TWO.length();
        String[] lines = {"dies zz 1", "dies s 1", "person a", "plan a 5", "odd", "plan a !", "family", "hides a s a"};
        int[] faults = {2, 2, 3, 4, 1, 1, 3, 3};
        int[] places = {5, 5, 7, 7, 0, 7, 0, 10};
        for (int i = 0; i < lines.length; i++) {
            for (int j = 0; j < lines.length; j++) {
                fault(TWO + ";" + lines[i] + ";" + lines[j], faults[i], n + 1 + places[i]);
            }
        }
        String many = TWO + ";diary 0 a".repeat(8);
        fault(many + ";dies zz;not", 2, many.length() + 6);
        fault(many + ";not;dies zz", 5, many.length() + 1);
        fault("person a;family years 3", 6, 0);
        fault("family years 3;person", 4, 13);
        fault("family years 99 law odd fare 100", 4, 13);
        fault("family years 5 law odd fare 100", 1, 19);
        fault("family years 5 law lot fare 100 !", 4, 28);
        fault(TWO + ";plan a 4 to 3 harm 0", 4, n + 13);
        fault(TWO + ";buys 9 zz zz", 4, n + 6);
        fault(TWO + ";buys 0 zz zz", 2, n + 8);
        fault(TWO + ";hides zz zz zz", 2, n + 7);
        fault(TWO + ";diary 9 zz", 4, n + 7);
        fault(TWO + ";secret s zz", 3, n + 8);
    }

    private static void ofOnePlaceTheLeastNumber() {
        promise = "of one place the least number";
        // At the end: no line goes on, and there is no person.
        fault("", 1, 0);
        fault(LINES[0] + ";", 1, 30);
        fault("family years 5 law lot fare", 1, 27);
        fault("family", 1, 6);
        // A second family is told again, and more than there is room for.
        fault(LINES[0] + ";family", 3, 30);
        // A line that is none, ahead of the family.
        fault("odd", 1, 0);
        // A name that can't be one isn't told, either.
        fault(TWO + ";dies not 1", 1, TWO.length() + 6);
        // A whole of too many digits is out of bounds, too.
        fault("family years 9999", 1, 13);
    }

    // ---- fault and where

    private static final String[] FAULTY = {"odd", LINES[0] + ";dies zz 1", LINES[0] + ";family", "family years 3",
        TWO + ";not 0 a".repeat(9), "person"};
    private static final int[] PLACES = {0, 35, 30, 13, TWO.length() + 65, 0};

    private static void faultOfTheLatestFamily() {
        promise = "The FAULT of the latest family() not refused by 2; 0 without one";
        for (int i = 0; i < FAULTY.length; i++) {
            ElderTurn x = new ElderTurn();
            due("0 at first", x.fault(), 0);
            no(x, "refused by 2", x.family(-1), 2);
            due("still 0", x.fault(), 0);
            no(x, FAULTY[i], Texts.family(x, FAULTY[i]), 4);
            due("fault", x.fault(), i + 1);
            no(x, "refused by 2", x.family(1), 2);
            due("the fault stays", x.fault(), i + 1);
            x.size(0);
            x.fair();
            x.feed(0, 0, 0, 0, 0);
            led(x, 0);
            due("the fault stays", x.fault(), i + 1);
            x.family(20);
            due("the latest one", x.fault(), 1);
            yes(x, "a family", Texts.family(x, TWO), 2);
            due("0 without one", x.fault(), 0);
            no(x, "refused by 2", x.family(HIGH), 2);
            due("still 0", x.fault(), 0);
        }
    }

    private static void whereByTheLatestCall() {
        promise = "Its place, if the latest call that may be refused was by 4; NONE else";
        for (int i = 0; i < FAULTY.length; i++) {
            ElderTurn x = new ElderTurn();
            due("NONE at first", x.where(), -1);
            no(x, FAULTY[i], Texts.family(x, FAULTY[i]), 4);
            due("where", x.where(), PLACES[i]);
            due("where again", x.where(), PLACES[i]);
            x.feed(0, 0, 0, 0, 0);
            x.fault();
            x.size(3);
            x.size(-1);
            x.trouble();
            led(x, 0);
            due("behind calls that can't be refused", x.where(), PLACES[i]);
            x.undo();
            due("behind one that was, by 6", x.where(), -1);
            no(x, FAULTY[i], again(x, FAULTY[i]), 4);
            due("where", x.where(), PLACES[i]);
            x.family(HIGH);
            due("behind one that was, by 2", x.where(), -1);
            no(x, FAULTY[i], again(x, FAULTY[i]), 4);
            yes(x, "a family", Texts.family(x, TWO), 2);
            due("behind one that wasn't", x.where(), -1);
            no(x, FAULTY[i], again(x, FAULTY[i]), 4);
            due("where, though there is a family", x.where(), PLACES[i]);
            x.harmAll();
            due("behind another that wasn't", x.where(), -1);
        }
        ElderTurn late = new ElderTurn();
        no(late, "refused by 4 at 0", late.family(0), 4);
        due("place 0 is one", late.where(), 0);
    }

    /** The tape may hold what other calls fed: it is put away first. */
    private static int again(ElderTurn x, String text) {
        x.family(0);
        return Texts.family(x, text);
    }
}
