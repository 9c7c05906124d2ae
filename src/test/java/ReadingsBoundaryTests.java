/** The boundaries that the document names of LINES, VALUES, READINGS and of what does not COME OUT. */
public final class ReadingsBoundaryTests extends Check {
    private static final String GREAT = "system g:gg 60 hh 60 ii 60 jj 60 kk;";
    // Least, below, each TABLET, LINE or ? there may be, behind, greatest.
    private static final int[] NUMBERS = {LEAST, -2, -1, 0, 1, 2, 3, 4, 7, 8, 11, 12, 13, GREATEST};

    public static void main(String[] args) {
        valuesOfLines();
        totals();
        totalsOfTwoSystems();
        grands();
        comesOut();
        wrapAround();
        fillings();
        questionsOfALine();
        lineHasNoValue();
        howManyLines();
        howManyReadings();
        bounds();
        boundsWithoutAReading();
        digits();
        digitsThatDiffer();
        fewestWrong();
        tabletsThatAreNone();
        tabletsApart();
        finish("ReadingsBoundaryTests");
    }

    private static ClayAccounts read(String units, String text) {
        ClayAccounts x = withUnits(units);
        due("tablet of \"" + text + "\"", tablet(x, text), 0);
        return x;
    }

    private static void dueReadings(String text, int readings, int wrong) {
        dueReadings(UNITS, text, readings, wrong);
    }

    private static void dueReadings(String units, String text, int readings, int wrong) {
        ClayAccounts x = read(units, text);
        due("readings of \"" + text + "\"", x.readings(0), readings);
        due("wrong of \"" + text + "\"", x.wrong(0), wrong);
    }

    private static void dueValue(String units, String text, int value) {
        ClayAccounts x = read(units, text);
        due("the VALUE of \"" + text + "\"", x.line(0, 0, 3), value);
        due("the least VALUE of \"" + text + "\"", x.bound(0, 0, false), value);
        due("the greatest VALUE of \"" + text + "\"", x.bound(0, 0, true), value);
    }

    private static void valuesOfLines() {
        sentence("VALUE: in least UNITS of that SYSTEM.");
        dueValue(UNITS, "1 sila;", 1);
        dueValue(UNITS, "9 sila;", 9);
        dueValue(UNITS, "1 ban;", 10);
        dueValue(UNITS, "1 ban 1 sila;", 11);
        dueValue(UNITS, "1 bariga;", 60);
        dueValue(UNITS, "1 gur;", 300);
        dueValue(UNITS, "99 gur 4 bariga 5 ban 9 sila;", 29999);
        dueValue(UNITS, "1 grain;", 1);
        dueValue(UNITS, "99 mina 59 shekel 59 grain;", 359999);
        dueValue(GREAT, "1 kk;", 12960000);
        dueValue(GREAT, "99 kk;", 1283040000);
        dueValue(GREAT, "99 kk 59 jj 59 ii 59 hh 58 gg;", 1295999998);
        dueValue(GREAT, "99 kk 59 jj 59 ii 59 hh 59 gg;", 1295999999);
        dueValue("system a:b;", "1 b;", 1);
        dueValue("system a:b;", "99 b;", 99);
        dueValue("system a:b 2 c 2 d 2 e 2 f;", "99 f 1 e 1 d 1 c 1 b;", 1599);
    }

    private static void totals() {
        sentence("TOTAL of a SYSTEM: that of all ENTRIES of it since the TOTAL of it ahead (or the beginning).");
        dueReadings("total 1 sila;", 0, 1);
        dueReadings("1 sila;total 1 sila;", 1, 0);
        dueReadings("1 sila;2 sila;total 3 sila;", 1, 0);
        dueReadings("1 sila;total 1 sila;2 sila;total 2 sila;", 1, 0);
        dueReadings("1 sila;total 1 sila;2 sila;total 3 sila;", 0, 1);
        dueReadings("1 sila;total 1 sila;total 1 sila;", 0, 1);
        // The TOTAL ahead is an end, though it does not COME OUT.
        dueReadings("1 sila;total 2 sila;3 sila;total 3 sila;", 0, 1);
        dueReadings("1 sila;total 2 sila;3 sila;total 4 sila;", 0, 2);
        // A GRAND between them is no end, and no ENTRY.
        dueReadings("1 sila;total 1 sila;2 sila;grand 1 sila;3 sila;total 5 sila;", 1, 0);
        dueReadings("1 sila;grand 1 sila;total 1 sila;", 0, 1);
        // ENTRIES behind the last TOTAL are in none.
        dueReadings("1 sila;total 1 sila;2 sila;", 1, 0);
        dueReadings("1 sila x;".repeat(11) + "total 1 ban 1 sila;", 1, 0);
        dueReadings("1 sila x;".repeat(11) + "total 1 ban 2 sila;", 0, 1);
        dueReadings("1 sila x;".repeat(11) + "total 1 ban;", 0, 1);
    }

    private static void totalsOfTwoSystems() {
        sentence("TOTAL of a SYSTEM: that of all ENTRIES of it");
        dueReadings("1 sila;1 grain;total 1 sila;total 1 grain;", 1, 0);
        dueReadings("1 sila;1 grain;total 2 sila;total 2 grain;", 0, 2);
        dueReadings("1 sila;total 1 grain;", 0, 1);
        dueReadings("1 sila;2 grain;total 2 grain;2 sila;total 3 sila;", 1, 0);
        dueReadings("1 sila;2 grain;total 2 grain;2 sila;total 2 sila;", 0, 1);
        String three = "system a:b;system c:d;system e:f;";
        dueReadings(three, "1 b;2 d;3 f;4 b;total 3 f;total 2 d;total 5 b;grand 5 b;grand 2 d;grand 3 f;", 1, 0);
        dueReadings(three, "1 b;2 d;3 f;4 b;total 4 f;total 1 d;total 4 b;grand 4 b;grand 1 d;grand 5 f;", 0, 4);
    }

    private static void grands() {
        sentence("GRAND of a SYSTEM: that of all TOTALS of it ahead.");
        dueReadings("grand 1 sila;", 0, 1);
        dueReadings("1 sila;grand 1 sila;", 0, 1);
        dueReadings("1 sila;total 1 sila;grand 1 sila;", 1, 0);
        dueReadings("1 sila;total 1 sila;2 sila;total 2 sila;grand 3 sila;", 1, 0);
        dueReadings("1 sila;total 1 sila;2 sila;total 2 sila;grand 2 sila;", 0, 1);
        // A GRAND ahead is neither an end nor a part.
        dueReadings("1 sila;total 1 sila;grand 1 sila;grand 1 sila;", 1, 0);
        dueReadings("1 sila;total 1 sila;grand 1 sila;2 sila;total 2 sila;grand 3 sila;", 1, 0);
        dueReadings("1 sila;total 1 sila;grand 1 sila;2 sila;total 2 sila;grand 2 sila;", 0, 1);
        // A TOTAL behind it is not ahead.
        dueReadings("1 sila;grand 1 sila;total 1 sila;grand 1 sila;", 0, 1);
        dueReadings("1 sila;total 1 sila;1 grain;total 1 grain;grand 1 sila;grand 1 grain;", 1, 0);
        dueReadings("1 sila;total 1 sila;1 grain;total 1 grain;grand 2 sila;grand 2 grain;", 0, 2);
        dueReadings("1 sila;total 1 sila;1 grain;grand 1 grain;", 0, 1);
    }

    private static void comesOut() {
        sentence("A LINE of these COMES OUT, if its VALUE is that.");
        dueReadings("5 gur;total 4 gur 4 bariga 5 ban 9 sila;", 0, 1);
        dueReadings("5 gur;total 5 gur;", 1, 0);
        dueReadings("5 gur;total 5 gur 1 sila;", 0, 1);
        dueReadings("4 bariga;1 bariga;total 1 gur;", 1, 0);
        dueReadings("9 sila;9 sila;9 sila;9 sila;9 sila;9 sila;6 sila;total 1 bariga;", 1, 0);
        dueReadings("99 gur;1 gur;total 99 gur;", 0, 1);
        dueReadings("98 gur;1 gur;total 99 gur;", 1, 0);
        dueReadings("5 gur;total 5 gur;grand 5 gur;", 1, 0);
        dueReadings("5 gur;total 5 gur;grand 5 gur 1 sila;", 0, 1);
        dueReadings("5 gur;total 5 gur;grand 4 gur 4 bariga 5 ban 9 sila;", 0, 1);
        dueReadings(GREAT, "99 kk 59 jj 59 ii 59 hh 58 gg;1 gg;total 99 kk 59 jj 59 ii 59 hh 59 gg;", 1, 0);
        dueReadings(GREAT, "99 kk 59 jj 59 ii 59 hh 59 gg;1 gg;total 99 kk 59 jj 59 ii 59 hh 59 gg;", 0, 1);
        dueReadings(GREAT, "99 kk 59 jj 59 ii 59 hh 58 gg;total 99 kk 59 jj 59 ii 59 hh 59 gg;", 0, 1);
    }

    /** What these make together is a multiple of 4294967296 away from what stands there. */
    private static void wrapAround() {
        sentence("if its VALUE is that");
        // 3 x 1295999999 + 406967299 = 4294967296.
        String three = "99 kk 59 jj 59 ii 59 hh 59 gg;".repeat(3);
        String rest = "31 kk 24 jj 6 ii 28 hh 19 gg;";
        due("the rest", read(GREAT, rest).line(0, 0, 3), 406967299);
        dueReadings(GREAT, three + rest + "1 gg;total 1 gg;", 0, 1);
        dueReadings(GREAT, three + rest + "5 kk;total 5 kk;", 0, 1);
        dueReadings(GREAT, three + rest + "? gg;total ? gg;", 0, 1);
        // The same of a GRAND: its TOTALS do not COME OUT either, as nothing is ahead of them.
        String totals = "total 99 kk 59 jj 59 ii 59 hh 59 gg;".repeat(3) + "total " + rest + "total 1 gg;";
        dueReadings(GREAT, totals + "grand 1 gg;", 0, 6);
        // The greatest sum there may be: eleven of the greatest VALUE.
        dueReadings(GREAT, "99 kk 59 jj;".repeat(11) + "total 99 kk;", 0, 1);
    }

    private static void fillings() {
        sentence("A FILLING: a digit for each ?, with which each COUNT is as told.");
        dueReadings("? sila;", 9, 0);
        dueReadings("? ban;", 5, 0);
        dueReadings("? bariga;", 4, 0);
        dueReadings("1? gur;", 10, 0);
        dueReadings("9? gur;", 10, 0);
        dueReadings("?0 gur;", 9, 0);
        dueReadings("?9 gur;", 9, 0);
        dueReadings("?? gur;", 90, 0);
        dueReadings("?9 shekel;", 5, 0);
        dueReadings("5? shekel;", 10, 0);
        dueReadings("?? shekel;", 50, 0);
        dueReadings("system a:b 11 c;", "?? b;", 1, 0);
        dueReadings("system a:b 12 c;", "?? b;", 2, 0);
        dueReadings("system a:b 22 c;", "?1 b;", 2, 0);
        dueReadings("system a:b 22 c;", "2? b;", 2, 0);
        dueReadings("system a:b 22 c;", "?2 b;", 1, 0);
        dueReadings("system a:b 2 c;", "? b;", 1, 0);
        dueReadings("system a:b 3 c;", "? b;", 2, 0);
        dueReadings("system a:b 10 c;", "? b;", 9, 0);
        dueReadings("system a:b 11 c;", "? b;", 9, 0);
    }

    private static void questionsOfALine() {
        sentence("0 its kind (0 ENTRY, 1 TOTAL, 2 GRAND), 1 its SYSTEM, 2 how many ?, 3 its VALUE, if it has none (else NONE). NoSuchElementException: there is none such, or another what.");
        ClayAccounts x = read(UNITS, "1 ban;? mina ? shekel;total 1? grain;grand ? mina;");
        int[][] wants = {{0, 0, 0, 10}, {0, 1, 2, -1}, {1, 1, 1, -1}, {2, 1, 1, -1}};
        for (int k : NUMBERS) {
            for (int what : new int[] {LEAST, -1, 0, 1, 2, 3, 4, 5, GREATEST}) {
                boolean is = k >= 0 && k < 4 && what >= 0 && what <= 3;
                due("line(0, " + k + ", " + what + ")", orThrows(() -> x.line(0, k, what)), is ? wants[k][what] : THROWS);
            }
        }
        ClayAccounts y = read(UNITS, "1 gur;".repeat(11) + "grand 2 mina;");
        due("line(0, 11, 0) of twelve", y.line(0, 11, 0), 2);
        due("line(0, 11, 1) of twelve", y.line(0, 11, 1), 1);
        due("line(0, 11, 3) of twelve", y.line(0, 11, 3), 7200);
        due("line(0, 12, 0) of twelve", orThrows(() -> y.line(0, 12, 0)), THROWS);
    }

    private static void lineHasNoValue() {
        sentence("2 how many ?, 3 its VALUE, if it has none (else NONE)");
        String[] texts = {"10 gur 1 bariga;", "1? gur 1 bariga;", "?? gur 1 bariga;", "?? gur ? bariga;", "?? gur ? bariga ? sila;"};
        for (int n = 0; n <= 4; n++) {
            ClayAccounts x = read(UNITS, texts[n]);
            due("how many ? of " + texts[n], x.line(0, 0, 2), n);
            due("the VALUE of " + texts[n], x.line(0, 0, 3), n == 0 ? 3060 : -1);
        }
        // Its VALUE is sure by the READINGS, but it has a ?.
        ClayAccounts x = read(UNITS, "1 gur;total ? gur;");
        due("the VALUE of a LINE with a sure ?", x.line(0, 1, 3), -1);
        due("its least VALUE", x.bound(0, 1, false), 300);
        due("the VALUE of the other LINE", x.line(0, 0, 3), 300);
    }

    private static void howManyLines() {
        sentence("How many LINES TABLET t has; NONE: there is none.");
        ClayAccounts x = withUnits(UNITS);
        for (int t = 0; t < 8; t++) {
            due("lines ahead of TABLET " + t, x.lines(t), -1);
            tablet(x, "1 gur;".repeat(t + 5));
            due("lines of TABLET " + t, x.lines(t), t + 5);
        }
        for (int t : NUMBERS) {
            due("lines(" + t + ")", x.lines(t), t >= 0 && t <= 7 ? t + 5 : -1);
        }
    }

    private static void howManyReadings() {
        sentence("How many READINGS TABLET t has; NONE: there is none.");
        dueReadings("1 gur;total 2 gur;", 0, 1);
        dueReadings("1 gur;total 1 gur;", 1, 0);
        dueReadings("1 gur;", 1, 0);
        dueReadings("? bariga;1 bariga;total ? bariga;", 3, 0);
        // As many as there may be: four ? with ten digits each.
        dueReadings("1? gur;1? gur;1? gur;1? gur;", 10000, 0);
        dueReadings("?? gur;?? gur;", 8100, 0);
        dueReadings("? gur;? gur;? gur;? gur;", 6561, 0);
        dueReadings("1? gur;1? gur;1? gur;total 3? gur;", 220, 0);
        // With the last digit alone it COMES OUT, or with the first one alone.
        dueReadings("? sila;total 9 sila;", 1, 0);
        dueReadings("? sila;total 1 sila;", 1, 0);
        dueReadings("? sila;total 1 ban;", 0, 1);
        dueReadings("9? gur;total 99 gur;", 1, 0);
        dueReadings("1? gur;total 10 gur;", 1, 0);
        dueReadings("?? gur;total 10 gur;", 1, 0);
        dueReadings("?? gur;total 99 gur;", 1, 0);
        dueReadings("?? gur;total 9 gur;", 0, 1);
    }

    private static void bounds() {
        sentence("NoSuchElementException: there is no such LINE.");
        ClayAccounts x = read(UNITS, "? ban x;? ban y;total ? bariga;7 sila;");
        int[] leasts = {10, 10, 60, 7};
        int[] greatests = {50, 50, 60, 7};
        for (int k : NUMBERS) {
            boolean is = k >= 0 && k < 4;
            due("bound(0, " + k + ", false)", orThrows(() -> x.bound(0, k, false)), is ? leasts[k] : THROWS);
            due("bound(0, " + k + ", true)", orThrows(() -> x.bound(0, k, true)), is ? greatests[k] : THROWS);
        }
        sentence("The least (greatest false) or greatest VALUE of LINE k in any READING");
        ClayAccounts y = read(GREAT, "9? kk 59 jj 59 ii 59 hh 5? gg;");
        due("the least", y.bound(0, 0, false), 90 * 12960000 + 12959999 - 9);
        due("the greatest", y.bound(0, 0, true), 1295999999);
        ClayAccounts z = read(GREAT, "?? kk ?? jj;");
        due("the least", z.bound(0, 0, false), 10 * 12960000 + 10 * 216000);
        due("the greatest", z.bound(0, 0, true), 99 * 12960000 + 59 * 216000);
        // The bounds of each LINE are of READINGS, not of FILLINGS.
        ClayAccounts w = read(UNITS, "? gur;2 gur;total 1? gur;");
        due("the least ENTRY", w.bound(0, 0, false), 8 * 300);
        due("the greatest ENTRY", w.bound(0, 0, true), 9 * 300);
        due("the least TOTAL", w.bound(0, 2, false), 10 * 300);
        due("the greatest TOTAL", w.bound(0, 2, true), 11 * 300);
        // Two COUNTS of one LINE with a ? each.
        ClayAccounts v = read(UNITS, "? gur ? sila;total 3 gur 4 sila;");
        due("the least of two", v.bound(0, 0, false), 904);
        due("the greatest of two", v.bound(0, 0, true), 904);
    }

    private static void boundsWithoutAReading() {
        sentence("NONE: no READING.");
        for (String text : new String[] {"? gur;1 gur;total 1 gur;", "1 gur;1 gur;total 1 gur;"}) {
            ClayAccounts x = read(UNITS, text);
            for (int k = 0; k < 3; k++) {
                due("least of " + text, x.bound(0, k, false), -1);
                due("greatest of " + text, x.bound(0, k, true), -1);
            }
            due("behind the last LINE", orThrows(() -> x.bound(0, 3, false)), THROWS);
        }
        ClayAccounts y = read(UNITS, "? gur;1 gur;total 2 gur;");
        due("least with one READING", y.bound(0, 0, false), 300);
        due("greatest with one READING", y.bound(0, 0, true), 300);
    }

    private static void digits() {
        sentence("NoSuchElementException: there is no such ?.");
        String[] texts = {"10 gur;total 10 gur;", "?0 gur;total 10 gur;", "?0 gur;total ?0 gur;grand 10 gur;",
            "?? gur;total ?9 gur;grand 89 gur;", "?? gur;total ?? gur;grand 89 gur;"};
        int[][] wants = {{}, {1}, {1, 1}, {8, 9, 8}, {8, 9, 8, 9}};
        for (int n = 0; n <= 4; n++) {
            ClayAccounts x = read(UNITS, texts[n]);
            for (int q : NUMBERS) {
                due("digit(0, " + q + ") of " + texts[n], orThrows(() -> x.digit(0, q)), q >= 0 && q < n ? wants[n][q] : THROWS);
            }
        }
        sentence("The digit of ? q of TABLET t (from 0 on, along the text) that all READINGS have");
        ClayAccounts x = read(UNITS, "?? gur ? bariga 1 ban ? sila;total 90 gur 1 bariga 1 ban 9 sila;");
        int[] along = {9, 0, 1, 9};
        for (int q = 0; q < 4; q++) {
            due("? " + q + " along the LINE", x.digit(0, q), along[q]);
        }
    }

    private static void digitsThatDiffer() {
        sentence("NONE: they differ, or there is none.");
        ClayAccounts x = read(UNITS, "1? gur;total 1? gur;");
        due("they differ", x.digit(0, 0), -1);
        due("they differ", x.digit(0, 1), -1);
        // Ten READINGS have the same first digit, and in one of two it is another one.
        ClayAccounts y = read(UNITS, "?? gur;1 gur;total 2? gur;");
        due("readings", y.readings(0), 10);
        due("19 to 28: the first digit differs once", y.digit(0, 0), -1);
        due("20 to 29: its own digits differ", y.digit(0, 2), -1);
        ClayAccounts z = read(UNITS, "?? gur;total 2? gur;");
        due("20 to 29: the first digit is sure", z.digit(0, 0), 2);
        due("20 to 29: the second one differs", z.digit(0, 1), -1);
        ClayAccounts w = read(UNITS, "? gur;total 1 sila;");
        due("no READING", w.digit(0, 0), -1);
        due("behind the last ?", orThrows(() -> w.digit(0, 1)), THROWS);
        ClayAccounts v = read("system a:b 2 c;", "? b;1? c;total 10 c 1 b;");
        due("the only digit that may be", v.digit(0, 0), 1);
        due("a digit of 0", v.digit(0, 1), 0);
        ClayAccounts u = read(UNITS, "9? gur;total 99 gur;");
        due("a digit of 9", u.digit(0, 0), 9);
    }

    private static void fewestWrong() {
        sentence("The fewest TOTALS and GRANDS that do not COME OUT, of all FILLINGS; NONE: no TABLET.");
        for (int n = 1; n <= 12; n++) {
            dueReadings("total 1 gur;".repeat(n), 0, n);
        }
        dueReadings("1 gur;", 1, 0);
        dueReadings("? gur;total 1 gur;", 1, 0);
        dueReadings("? gur;total 10 gur;", 0, 1);
        // Either the one or the other COMES OUT.
        dueReadings("1 gur;total ? gur;grand 2 gur;", 0, 1);
        dueReadings("1 gur;total ? gur;grand 1 gur;", 1, 0);
        dueReadings("? gur;total 1 gur;total ? gur;grand 1 gur;grand 2 gur;grand 3 gur;", 0, 3);
        // The fewest is of one FILLING: these two want another digit each.
        dueReadings("1 gur;total ? gur;grand 5 gur;grand 5 gur;", 0, 1);
        dueReadings("1 gur;total ? gur;grand 5 gur;grand 6 gur;", 0, 2);
        dueReadings("grand 1 gur;".repeat(12), 0, 12);
        dueReadings("1 gur;total 1 gur;" + "grand 1 gur;".repeat(10), 1, 0);
        dueReadings("1 gur;total ? gur;" + "grand 2 gur;".repeat(10), 0, 1);
        dueReadings("1 gur;total 1? gur;" + "grand 2 gur;".repeat(10), 0, 11);
    }

    private static void tabletsThatAreNone() {
        sentence("NONE: there is none.");
        ClayAccounts none = new ClayAccounts();
        ClayAccounts x = withUnits(UNITS);
        for (int n = 0; n < 8; n++) {
            tablet(x, "? gur;total ? gur;");
            for (int t : NUMBERS) {
                boolean is = t >= 0 && t <= n;
                due("readings(" + t + ") of " + n, x.readings(t), is ? 9 : -1);
                due("wrong(" + t + ") of " + n, x.wrong(t), is ? 0 : -1);
            }
        }
        for (int t : NUMBERS) {
            boolean is = t >= 0 && t < 8;
            due("lines(" + t + ")", x.lines(t), is ? 2 : -1);
            due("line(" + t + ", 0, 0)", orThrows(() -> x.line(t, 0, 0)), is ? 0 : THROWS);
            due("bound(" + t + ", 0, true)", orThrows(() -> x.bound(t, 0, true)), is ? 2700 : THROWS);
            due("digit(" + t + ", 0)", orThrows(() -> x.digit(t, 0)), is ? -1 : THROWS);
            due("readings(" + t + ") of a new object", none.readings(t), -1);
            due("wrong(" + t + ") of a new object", none.wrong(t), -1);
            due("line(" + t + ", 0, 0) of a new object", orThrows(() -> none.line(t, 0, 0)), THROWS);
            due("bound(" + t + ", 0, true) of a new object", orThrows(() -> none.bound(t, 0, true)), THROWS);
            due("digit(" + t + ", 0) of a new object", orThrows(() -> none.digit(t, 0)), THROWS);
        }
    }

    /** What was found of one TABLET is not told of another one, nor of one that was there ahead. */
    private static void tabletsApart() {
        sentence("How many READINGS TABLET t has");
        ClayAccounts x = withUnits(UNITS);
        tablet(x, "?? gur;");
        tablet(x, "? bariga;");
        due("the second one first", x.readings(1), 4);
        due("the first one", x.readings(0), 90);
        due("its greatest VALUE", x.bound(0, 0, true), 29700);
        systems(x, "system a:gur 9 bariga;");
        due("no TABLET behind systems()", x.readings(0), -1);
        tablet(x, "? gur;total ? gur;");
        due("a TABLET in the place of another one", x.readings(0), 8);
        due("its least VALUE", x.bound(0, 0, false), 1);
        due("its greatest VALUE", x.bound(0, 0, true), 8);
        due("the greatest VALUE of its TOTAL", x.bound(0, 1, true), 8);
        due("its wrong LINES", x.wrong(0), 0);
        due("its digit", x.digit(0, 0), -1);
        tablet(x, "1 gur;total 2 gur;");
        due("one without a READING", x.readings(1), 0);
        due("its bound", x.bound(1, 0, false), -1);
        due("the first one as ahead", x.readings(0), 8);
    }
}
