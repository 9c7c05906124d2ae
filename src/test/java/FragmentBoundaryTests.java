/** The boundaries that the document names of FRAGMENTS, of what they say together, and of the MATCH. */
public final class FragmentBoundaryTests extends Check {
    private static final int WHOLE = 99999999;
    private static final int[] NUMBERS = {LEAST, -2, -1, 0, 1, 2, 10, 11, 12, 13, GREATEST};

    public static void main(String[] args) {
        howManyFragments();
        lengthOfTheText();
        edgesThatMayBe();
        refusedTexts();
        howManyRows();
        edgesThatFit();
        edgesOfNought();
        asManyRows();
        saidTogether();
        lengthOfWhatIsSaid();
        sureWithAReading();
        sureWithTheSystems();
        questionsOfAJoin();
        oneInAPairAtMost();
        mostSurePairs();
        mostPairs();
        theFirstOfSuch();
        aloneOnlyIfItMust();
        oneWayOrTheOther();
        fewAndManyFragments();
        latestMatch();
        matchedWithNone();
        finish("FragmentBoundaryTests");
    }

    private static void howManyFragments() {
        sentence("FRAGMENTS 0 .. 11");
        ClayAccounts x = new ClayAccounts();
        for (int f = 0; f <= 11; f++) {
            due("rows ahead of FRAGMENT " + f, x.rows(f), -1);
            due("fragment " + f, fragment(x, "/".repeat(f), 0, 0), f);
            due("FRAGMENTS", x.count(2), f + 1);
        }
        sentence("NONE: there are 12, an EDGE or the text is not as told");
        due("a 13th", fragment(x, "a", 0, 0), -1);
        due("the tape", x.count(4), 0);
        due("a 13th once more", fragment(x, "", 1, 1), -1);
        due("FRAGMENTS", x.count(2), 12);
        for (int f = 0; f <= 11; f++) {
            due("rows of FRAGMENT " + f, x.rows(f), f + 1);
        }
        systems(x, UNITS);
        due("FRAGMENTS stay behind systems()", fragment(x, "a", 0, 0), -1);
    }

    private static void lengthOfTheText() {
        sentence("a text of at most 200 bytes");
        int[] sizes = {0, 1, 199, 200, 201, 202, 399, 440};
        for (int size : sizes) {
            ClayAccounts x = new ClayAccounts();
            boolean good = size <= 200;
            due("a text of " + size, fragment(x, "a".repeat(size), 0, 0), good ? 0 : -1);
            due("FRAGMENTS", x.count(2), good ? 1 : 0);
            due("the tape", x.count(4), 0);
        }
        // The last byte of 200 is said, too.
        ClayAccounts x = withUnits(UNITS);
        fragment(x, blanks(194) + "1 gur;", 0, 1);
        fragment(x, "", 99999998, 0);
        due("the last byte", x.join(0, 1), 2);
        ClayAccounts y = withUnits(UNITS);
        fragment(y, blanks(199) + "1", 0, 1);
        fragment(y, blanks(90) + "gur;", 99999998, 0);
        due("the last byte", y.join(0, 1), 2);
    }

    private static void edgesThatMayBe() {
        sentence("two EDGES, numbers 0 to 99999999");
        int[] edges = {LEAST, -99999999, -2, -1, 0, 1, 2, 99999998, 99999999, 100000000, 100000001, GREATEST};
        for (int left : edges) {
            for (int right : edges) {
                ClayAccounts x = new ClayAccounts();
                boolean good = left >= 0 && left <= WHOLE && right >= 0 && right <= WHOLE;
                due("EDGES " + left + ", " + right, fragment(x, "a", left, right), good ? 0 : -1);
                due("FRAGMENTS", x.count(2), good ? 1 : 0);
                due("the tape", x.count(4), 0);
            }
        }
    }

    private static void refusedTexts() {
        sentence("NONE: there are 12, an EDGE or the text is not as told");
        ClayAccounts x = withUnits(UNITS);
        tablet(x, "? gur;total 2 gur;");
        fragment(x, "1 gur", 0, 1);
        fragment(x, ";", 99999998, 0);
        x.match();
        x.write(0, 634);
        String before = state(x);
        due("a text too long", fragment(x, "a".repeat(201), 0, 0), -1);
        due("a left EDGE", fragment(x, "a", -1, 0), -1);
        due("a right EDGE", fragment(x, "a", 0, 100000000), -1);
        due("the tape", x.count(4), 0);
        due("what is there", state(x), before);
        due("the next FRAGMENT", fragment(x, "a/b", 5, 5), 2);
        due("its ROWS", x.rows(2), 2);
    }

    private static void howManyRows() {
        sentence("How many ROWS FRAGMENT f has (one more than there are /); NONE: there is none.");
        String[] texts = {"", "a", "/", "a/", "/a", "a/b", "//", "a//b", "/".repeat(199), "/".repeat(200), "\u00af/?", "\\|"};
        int[] wants = {1, 1, 2, 2, 2, 2, 3, 3, 200, 201, 2, 1};
        ClayAccounts x = new ClayAccounts();
        for (int f = 0; f < 12; f++) {
            fragment(x, texts[f], 0, 0);
            due("rows of \"" + texts[f] + "\"", x.rows(f), wants[f]);
            due("rows(" + (f + 1) + ")", x.rows(f + 1), -1);
        }
        for (int f : NUMBERS) {
            due("rows(" + f + ")", x.rows(f), f >= 0 && f < 12 ? wants[f] : -1);
        }
        ClayAccounts y = new ClayAccounts();
        due("rows(0) of a new object", y.rows(0), -1);
        due("rows(-1) of a new object", y.rows(-1), -1);
    }

    private static int join(int right, int left) {
        ClayAccounts x = new ClayAccounts();
        fragment(x, "a", 0, right);
        fragment(x, "b", left, 0);
        due("the other way round", x.join(1, 0), 0);
        return x.join(0, 1);
    }

    private static void edgesThatFit() {
        sentence("if both its right EDGE and the other one's left EDGE are not 0 and make 99999999 together");
        int[] edges = {1, 2, 9999999, 49999999, 50000000, 99999997, 99999998};
        for (int edge : edges) {
            due("EDGES that make 99999998", WHOLE - edge - 1 == 0 ? 0 : join(edge, WHOLE - edge - 1), 0);
            due("EDGES that make 99999999", join(edge, WHOLE - edge), 1);
            due("EDGES that make 100000000", join(edge, WHOLE - edge + 1), 0);
        }
        due("twice the greatest", join(WHOLE, WHOLE), 0);
        due("the least ones", join(1, 1), 0);
        // The right EDGE of the one and the left EDGE of the other one, no others.
        ClayAccounts x = new ClayAccounts();
        fragment(x, "a", 7, 5);
        fragment(x, "b", 5, 99999992);
        fragment(x, "c", 99999994, 99999994);
        due("left with left", x.join(1, 2), 0);
        due("right with right", x.join(0, 1), 0);
        due("right with left", x.join(0, 2), 1);
        due("right with left the other way", x.join(2, 1), 1);
        due("right with left", x.join(1, 0), 1);
        due("left with right", x.join(2, 0), 0);
    }

    private static void edgesOfNought() {
        sentence("numbers 0 to 99999999, 0 being none");
        due("a right EDGE of 0", join(0, WHOLE), 0);
        due("a left EDGE of 0", join(WHOLE, 0), 0);
        due("both EDGES of 0", join(0, 0), 0);
        due("EDGES of 1", join(1, 99999998), 1);
        due("EDGES of 1", join(99999998, 1), 1);
    }

    private static int joinTexts(String left, String right) {
        ClayAccounts x = withUnits(UNITS);
        due("the left one", fragment(x, left, 0, 1), 0);
        due("the right one", fragment(x, right, 99999998, 0), 1);
        return x.join(0, 1);
    }

    private static void asManyRows() {
        sentence("and they have as many ROWS");
        String[] texts = {"", "/", "//", "/".repeat(199), "/".repeat(200)};
        for (int i = 0; i < texts.length; i++) {
            for (int j = 0; j < texts.length; j++) {
                due("ROWS of " + texts[i].length() + " and " + texts[j].length() + " /", joinTexts(texts[i], texts[j]), i == j ? 1 : 0);
            }
        }
        due("ROWS of one and two", joinTexts("1 gur;", "/"), 0);
        due("ROWS of two and two", joinTexts("1 gur;/", "/"), 2);
        due("ROWS of two and three", joinTexts("1 gur;/", "//"), 0);
    }

    private static void saidTogether() {
        sentence("SAID together: ROW by ROW that of the left one, a blank, that of the right one, a blank.");
        due("a blank between the two of a ROW", joinTexts("1", "gur;"), 2);
        due("no TOKEN goes over it", joinTexts("1 gu", "r;"), 1);
        due("a COUNT does not go over it", joinTexts("1 gur;1", "2 gur;"), 1);
        due("a blank between two ROWS", joinTexts("1/2", "gur;1/gur;"), 1);
        due("a blank between two ROWS", joinTexts("1/gur;", "gur;1/"), 2);
        due("no TOKEN goes from ROW to ROW", joinTexts("/r;", "1 gu/"), 1);
        due("a LINE goes from ROW to ROW", joinTexts("1/3/wool", "gur/ban/;"), 2);
        due("left ahead of right", joinTexts("gur;", "1"), 1);
        due("ROW ahead of ROW", joinTexts("gur;/1", "/"), 1);
        due("empty ROWS", joinTexts("//1 gur//", "//;//"), 2);
        due("all in the left one", joinTexts("1 gur;", ""), 2);
        due("all in the right one", joinTexts("", "1 gur;"), 2);
        due("nothing", joinTexts("", ""), 1);
    }

    private static void lengthOfWhatIsSaid() {
        sentence("SURE: what is SAID is the text of a TABLET");
        due("299 bytes", joinTexts(upTo(200, "1 gur;"), blanks(97)), 2);
        due("300 bytes", joinTexts(upTo(200, "1 gur;"), blanks(98)), 2);
        due("301 bytes", joinTexts(upTo(200, "1 gur;"), blanks(99)), 1);
        due("402 bytes", joinTexts(upTo(200, "1 gur;"), blanks(200)), 1);
        due("299 bytes, the right one longer", joinTexts("1 gur;" + blanks(91), blanks(200)), 2);
        due("300 bytes, the right one longer", joinTexts("1 gur;" + blanks(92), blanks(200)), 2);
        due("301 bytes, the right one longer", joinTexts("1 gur;" + blanks(93), blanks(200)), 1);
        // A / is lost and two blanks come, ROW for ROW.
        due("300 bytes in 93 ROWS", joinTexts("1 gur;" + "/".repeat(92) + blanks(102), "/".repeat(92) + blanks(6)), 2);
        due("301 bytes in 93 ROWS", joinTexts("1 gur;" + "/".repeat(92) + blanks(102), "/".repeat(92) + blanks(7)), 1);
        due("300 bytes in 147 ROWS", joinTexts("1 gur;" + "/".repeat(146), "/".repeat(146)), 2);
        due("301 bytes in 147 ROWS", joinTexts("1 gur;" + "/".repeat(146), "/".repeat(146) + " "), 1);
        due("302 bytes in 148 ROWS", joinTexts("1 gur;" + "/".repeat(147), "/".repeat(147)), 1);
        // 13 LINES, five ?.
        due("twelve LINES", joinTexts("1 gur;".repeat(6), "1 gur;".repeat(6)), 2);
        due("13 LINES", joinTexts("1 gur;".repeat(6), "1 gur;".repeat(7)), 1);
        due("four ?", joinTexts("?? gur;", "?? gur;"), 2);
        due("five ?", joinTexts("?? gur;", "?? gur;? gur;"), 1);
    }

    private static void sureWithAReading() {
        sentence("SURE: what is SAID is the text of a TABLET with a READING.");
        due("no READING, one too few", joinTexts("5 sila;", "total 4 sila;"), 1);
        due("a READING", joinTexts("5 sila;", "total 5 sila;"), 2);
        due("no READING, one too many", joinTexts("5 sila;", "total 6 sila;"), 1);
        due("one READING of nine FILLINGS", joinTexts("? sila;", "total 9 sila;"), 2);
        due("none of nine FILLINGS", joinTexts("? sila;", "total 1 ban;"), 1);
        due("many READINGS", joinTexts("1? gur;1? gur;", "1? gur;1? gur;"), 2);
        due("the last of all FILLINGS", joinTexts("9? gur;", "total 99 gur;"), 2);
        due("a FAULT", joinTexts("0 gur;", "total 1 gur;"), 1);
        due("a FAULT behind LINES that COME OUT", joinTexts("5 sila;", "total 5 sila;x"), 1);
        ClayAccounts x = withUnits(UNITS);
        fragment(x, "0", 0, 1);
        fragment(x, "gur;", 99999998, 0);
        tablet(x, "1 foo;");
        due("a join that is no TABLET", x.join(0, 1), 1);
        due("fault() is not of a join", x.fault(), 3);
        due("TABLETS", x.count(1), 0);
        due("the tape", x.count(4), 0);
    }

    private static void sureWithTheSystems() {
        sentence("2 and they are SURE");
        ClayAccounts x = new ClayAccounts();
        fragment(x, "1", 0, 1);
        fragment(x, "gur;", 99999998, 0);
        due("without SYSTEMS", x.join(0, 1), 1);
        due("match without SYSTEMS", x.match(), 1);
        due("SURE pairs without SYSTEMS", x.count(3), 0);
        systems(x, "system a:gur;");
        due("with SYSTEMS", x.join(0, 1), 2);
        due("SURE pairs ahead of match()", x.count(3), 0);
        due("match", x.match(), 1);
        due("SURE pairs", x.count(3), 1);
        systems(x, "system a:b;;");
        due("behind SYSTEMS with a FAULT", x.join(0, 1), 2);
        due("SURE pairs behind SYSTEMS with a FAULT", x.count(3), 1);
        systems(x, "system a:b;");
        due("with other SYSTEMS", x.join(0, 1), 1);
        due("match", x.match(), 1);
        due("SURE pairs", x.count(3), 0);
        for (int t = 0; t < 8; t++) {
            tablet(x, "1 b;");
        }
        fragment(x, "b;", 99999998, 0);
        due("with eight TABLETS", x.join(0, 2), 2);
        due("TABLETS", x.count(1), 8);
    }

    private static void questionsOfAJoin() {
        sentence("NONE: one of them is none, or they are the same");
        ClayAccounts none = new ClayAccounts();
        due("join(0, 1) of a new object", none.join(0, 1), -1);
        due("join(0, 0) of a new object", none.join(0, 0), -1);
        for (int n = 1; n <= 12; n++) {
            ClayAccounts x = new ClayAccounts();
            for (int f = 0; f < n; f++) {
                fragment(x, "", 5, 99999994);
            }
            for (int f : NUMBERS) {
                for (int g : NUMBERS) {
                    boolean are = f >= 0 && f < n && g >= 0 && g < n && f != g;
                    due("join(" + f + ", " + g + ") of " + n, x.join(f, g), are ? 1 : -1);
                }
            }
        }
    }

    private static void dueMatch(ClayAccounts x, int pairs, int sure, int... partners) {
        due("match", x.match(), pairs);
        due("SURE pairs", x.count(3), sure);
        for (int f = 0; f < partners.length; f++) {
            due("matched(" + f + ")", x.matched(f), partners[f]);
        }
        due("matched behind the last one", x.matched(partners.length), -1);
    }

    /** FRAGMENTS of one ROW; a text, a left EDGE, a right EDGE for each. */
    private static ClayAccounts with(Object... rows) {
        ClayAccounts x = withUnits(UNITS);
        for (int i = 0; i + 2 < rows.length; i += 3) {
            fragment(x, (String) rows[i], (Integer) rows[i + 1], (Integer) rows[i + 2]);
        }
        return x;
    }

    private static void oneInAPairAtMost() {
        sentence("A MATCH: pairs of which one goes LEFT of the other one, each FRAGMENT in one at most.");
        dueMatch(with("a", 0, 1), 0, 0, -1);
        dueMatch(with("a", 0, 1, "b", 99999998, 0), 1, 0, 1, 0);
        dueMatch(with("a", 0, 1, "b", 99999997, 0), 0, 0, -1, -1);
        dueMatch(with("a", 0, 1, "b", 99999998, 0, "c", 99999998, 0), 1, 0, 1, 0, -1);
        // A chain of three and one of four.
        dueMatch(with("a", 0, 1, "b", 99999998, 2, "c", 99999997, 0), 1, 0, 1, 0, -1);
        dueMatch(with("a", 0, 1, "b", 99999998, 2, "c", 99999997, 3, "d", 99999996, 0), 2, 0, 1, 0, 3, 2);
        // A FRAGMENT that would go LEFT of itself.
        dueMatch(with("a", 5, 99999994), 0, 0, -1);
        dueMatch(with("a", 5, 99999994, "b", 5, 99999994, "c", 5, 99999994), 1, 0, 1, 0, -1);
    }

    private static void mostSurePairs() {
        sentence("The best one has the most SURE pairs");
        dueMatch(with("1", 0, 1, "x", 99999998, 0, "gur;", 99999998, 0), 1, 1, 2, -1, 0);
        // One SURE pair against two that are not, two SURE ones against one.
        dueMatch(with("x", 0, 7, "gur;", 99999992, 0, "1", 8, 7, "y", 0, 99999991), 1, 1, -1, 2, 1, -1);
        dueMatch(with("1", 0, 7, "gur;", 99999992, 0, "1", 8, 7, "y", 0, 99999991), 2, 1, 1, 0, 3, 2);
        dueMatch(with("1", 0, 7, "gur;", 99999992, 0, "gur;", 99999992, 0, "1", 0, 7), 2, 2, 1, 0, 3, 2);
        // One SURE pair in the midst of a chain against two others: a-b, b-c SURE, c-d.
        dueMatch(with("x", 0, 1, "1", 99999998, 2, "gur;", 99999997, 3, "y", 99999996, 0), 1, 1, -1, 2, 1, -1);
        dueMatch(with("x", 0, 1, "1", 99999998, 2, "mur;", 99999997, 3, "y", 99999996, 0), 2, 0, 1, 0, 3, 2);
    }

    private static void mostPairs() {
        sentence("then the most pairs");
        // 0 with 2 or 3, 1 with 2 alone.
        dueMatch(with("", 11, 12, "", 0, 12, "", 99999987, 0, "", 0, 99999988), 2, 0, 3, 2, 1, 0);
        dueMatch(with("", 11, 12, "", 0, 13, "", 99999987, 0, "", 0, 99999988), 1, 0, 2, -1, 0, -1);
        // As many SURE pairs either way: 0 with 1 or 2 SURE; with 2, a pair more is left for 1 and 3.
        dueMatch(with("1", 0, 7, "gur;", 99999992, 9, "gur;", 99999992, 0, "z", 99999990, 0), 2, 1, 2, 3, 0, 1);
        dueMatch(with("1", 0, 7, "gur;", 99999992, 9, "gur;", 99999992, 0, "z", 99999991, 0), 1, 1, 1, 0, -1, -1);
        // Five pairs of which one FRAGMENT more would make six.
        ClayAccounts x = new ClayAccounts();
        for (int f = 0; f < 11; f++) {
            fragment(x, "", 5, 99999994);
        }
        due("pairs of eleven", x.match(), 5);
        due("the last one is alone", x.matched(10), -1);
        fragment(x, "", 5, 99999994);
        due("pairs of twelve", x.match(), 6);
        due("the last one is not", x.matched(10), 11);
    }

    private static void theFirstOfSuch() {
        sentence("of such the first: FRAGMENT by FRAGMENT from 0 on, the one with which it is, whichever of both goes LEFT, has the least number that may be");
        dueMatch(with("", 5, 99999994, "", 5, 99999994, "", 5, 99999994, "", 5, 99999994), 2, 0, 1, 0, 3, 2);
        // 0 goes RIGHT of 1 and LEFT of 2, then the other way round.
        dueMatch(with("", 1, 2, "", 0, 99999998, "", 99999997, 0), 1, 0, 1, 0, -1);
        dueMatch(with("", 1, 2, "", 99999997, 0, "", 0, 99999998), 1, 0, 1, 0, -1);
        // 0 and 1 each with 2 and 3: 0 has 2.
        dueMatch(with("", 0, 4, "", 0, 4, "", 99999995, 0, "", 99999995, 0), 2, 0, 2, 3, 0, 1);
        // 0 with 3 alone; 1 has the least of what is left.
        dueMatch(with("", 0, 4, "", 5, 6, "", 99999993, 0, "", 99999995, 0, "", 99999993, 0), 2, 0, 3, 2, 1, 0, -1);
        // SURE or not goes ahead of the number, but the number is asked first of FRAGMENT 0.
        dueMatch(with("1", 0, 4, "1", 0, 4, "gur;", 99999995, 0, "gur;", 99999995, 0), 2, 2, 2, 3, 0, 1);
        dueMatch(with("1", 0, 4, "x", 0, 4, "y", 99999995, 0, "gur;", 99999995, 0), 2, 1, 3, 2, 1, 0);
    }

    private static void aloneOnlyIfItMust() {
        sentence("or it is alone only if it must");
        // One partner for three: the least FRAGMENT has it, the others must be alone.
        dueMatch(with("", 0, 4, "", 0, 4, "", 0, 4, "", 99999995, 0), 1, 0, 3, -1, -1, 0);
        dueMatch(with("", 99999995, 0, "", 0, 4, "", 0, 4, "", 0, 4), 1, 0, 1, 0, -1, -1);
        // 0 must be alone for a SURE pair, 1 has the greater partner.
        dueMatch(with("x", 0, 4, "1", 0, 4, "gur;", 99999995, 0), 1, 1, -1, 2, 1);
        dueMatch(with("x", 0, 4, "1", 0, 4, "mur;", 99999995, 0), 1, 0, 2, -1, 0);
        // A chain of five: 0 with 1, 2 with 3, the last one alone, though 4 could be with 3.
        dueMatch(with("", 0, 1, "", 99999998, 2, "", 99999997, 3, "", 99999996, 4, "", 99999995, 0), 2, 0, 1, 0, 3, 2, -1);
    }

    private static void oneWayOrTheOther() {
        sentence("(A pair is SURE, if it is so one way or the other.)");
        ClayAccounts x = with("1", 5, 99999994, "gur;", 5, 99999994);
        due("one way", x.join(0, 1), 2);
        due("the other way", x.join(1, 0), 1);
        dueMatch(x, 1, 1, 1, 0);
        ClayAccounts y = with("gur;", 5, 99999994, "1", 5, 99999994);
        due("one way", y.join(0, 1), 1);
        due("the other way", y.join(1, 0), 2);
        dueMatch(y, 1, 1, 1, 0);
        ClayAccounts z = with("1 gur;", 5, 99999994, "2 gur;", 5, 99999994);
        due("one way", z.join(0, 1), 2);
        due("the other way", z.join(1, 0), 2);
        dueMatch(z, 1, 1, 1, 0);
        ClayAccounts w = with("1", 5, 6, "gur;", 99999993, 7);
        due("one way", w.join(0, 1), 2);
        due("the other way", w.join(1, 0), 0);
        dueMatch(w, 1, 1, 1, 0);
        ClayAccounts v = with("x", 5, 99999994, "y", 5, 99999994);
        dueMatch(v, 1, 0, 1, 0);
    }

    private static void fewAndManyFragments() {
        sentence("The best MATCH is made: how many pairs.");
        ClayAccounts x = withUnits(UNITS);
        for (int n = 0; n <= 12; n++) {
            int[] partners = new int[n];
            for (int f = 0; f < n; f++) {
                partners[f] = (f ^ 1) < n ? f ^ 1 : -1;
            }
            dueMatch(x, n / 2, n / 2, partners);
            fragment(x, "1 gur;", 5, 99999994);
        }
        due("FRAGMENTS", x.count(2), 12);
        // Six left ones, then six right ones, each of which fits one of them alone, the other way round.
        ClayAccounts y = withUnits(UNITS);
        for (int f = 0; f < 6; f++) {
            fragment(y, "1", 0, f + 1);
        }
        for (int f = 6; f < 12; f++) {
            fragment(y, f % 2 == 0 ? "gur;" : "mur;", WHOLE - (12 - f), 0);
        }
        dueMatch(y, 6, 3, 11, 10, 9, 8, 7, 6, 5, 4, 3, 2, 1, 0);
    }

    private static void latestMatch() {
        sentence("With which FRAGMENT f is in the latest MATCH; NONE: with none, or ahead of any (also behind systems() that told how many).");
        ClayAccounts fresh = new ClayAccounts();
        for (int f = 0; f < 12; f++) {
            fragment(fresh, "", 5, 99999994);
            due("ahead of any, without SYSTEMS", fresh.matched(f), -1);
        }
        due("match", fresh.match(), 6);
        due("behind it", fresh.matched(11), 10);
        ClayAccounts x = with("1", 0, 4, "x", 99999995, 0);
        due("ahead of any", x.matched(0), -1);
        due("match", x.match(), 1);
        due("in it", x.matched(0), 1);
        due("in it", x.matched(1), 0);
        fragment(x, "gur;", 99999995, 0);
        due("a FRAGMENT more changes no MATCH", x.matched(0), 1);
        due("that FRAGMENT", x.matched(2), -1);
        due("a refused systems()", systems(x, "x"), -1);
        due("the MATCH stays", x.matched(0), 1);
        due("a refused fragment()", fragment(x, "a", -1, 0), -1);
        due("the MATCH stays", x.matched(1), 0);
        due("the next match", x.match(), 1);
        due("SURE pairs", x.count(3), 1);
        due("the next one", x.matched(0), 2);
        due("who is alone now", x.matched(1), -1);
        due("other SYSTEMS", systems(x, "system a:b;"), 1);
        for (int f = 0; f < 3; f++) {
            due("behind systems()", x.matched(f), -1);
        }
        due("SURE pairs behind systems()", x.count(3), 0);
        due("match", x.match(), 1);
        due("in the new one", x.matched(0), 1);
    }

    private static void matchedWithNone() {
        sentence("NONE: with none");
        ClayAccounts none = new ClayAccounts();
        ClayAccounts x = new ClayAccounts();
        for (int f = 0; f < 12; f++) {
            fragment(x, "", 5, 99999994);
        }
        due("match", x.match(), 6);
        ClayAccounts y = with("", 0, 1, "", 99999998, 0);
        due("match", y.match(), 1);
        for (int f : NUMBERS) {
            due("matched(" + f + ") of a new object", none.matched(f), -1);
            due("matched(" + f + ") of twelve", x.matched(f), f >= 0 && f < 12 ? f ^ 1 : -1);
            due("matched(" + f + ") of two", y.matched(f), f == 0 ? 1 : f == 1 ? 0 : -1);
        }
    }
}
