/** The boundaries that the document names of the texts of TABLETS and of their FAULTS. */
public final class TabletBoundaryTests extends Check {
    private static final String SMALL = "system s:aa 2 bb 3 cc 10 dd 11 ee;system t:ff 12 gg 59 hh 60 ii;system u:kk;";
    private static final String TWELVE = "1 gur;".repeat(12);

    public static void main(String[] args) {
        howManyTablets();
        noSystems();
        lengthOfTheText();
        howManyLines();
        blanksBetweenTokens();
        amountsOfAnEntry();
        amountsOfATotalOrGrand();
        signsOfACount();
        howFarACountGoes();
        namesOfUnits();
        namesBehindAnEntry();
        oneSystemAndLesserUnits();
        countsOfEachUnit();
        countsByTrying();
        noughtAhead();
        howManyBroken();
        whereTheTextEnds();
        whereALongTextEnds();
        tokensAcrossTheEnd();
        whatCannotCome();
        countsWithoutAUnit();
        countsAheadOfAnyUnit();
        namesThatAreNoUnits();
        thirteenthLine();
        fifthBroken();
        firstAndLeastFault();
        allStays();
        finish("TabletBoundaryTests");
    }

    private static void howManyTablets() {
        sentence("TABLETS 0 .. 7.");
        ClayAccounts x = withUnits(UNITS);
        for (int t = 0; t <= 7; t++) {
            due("TABLETS ahead", x.count(1), t);
            due("a FAULT makes none", tablet(x, "1 gur"), -6);
            due("tablet " + t, tablet(x, (t + 1) + " gur;"), t);
        }
        sentence("-400: there are 8, or no SYSTEMS");
        due("a ninth", tablet(x, "9 gur;"), -400);
        due("the tape", x.count(4), 0);
        due("a ninth with a FAULT", tablet(x, "9 gur"), -400);
        due("a ninth without a text", x.tablet(), -400);
        due("a ninth of 301 bytes", tablet(x, blanks(301)), -400);
        due("TABLETS", x.count(1), 8);
        for (int t = 0; t <= 7; t++) {
            due("the VALUE of TABLET " + t, x.line(t, 0, 3), 300 * (t + 1));
        }
        due("the same SYSTEMS once more", systems(x, UNITS), 2);
        due("TABLETS", x.count(1), 0);
        due("the first one again", tablet(x, "9 gur;"), 0);
    }

    private static void noSystems() {
        sentence("-400: there are 8, or no SYSTEMS");
        ClayAccounts x = new ClayAccounts();
        due("tablet without SYSTEMS", tablet(x, "1 gur;"), -400);
        due("the tape", x.count(4), 0);
        due("tablet without a text", x.tablet(), -400);
        due("SYSTEMS with a FAULT", systems(x, UNITS + "x"), -82);
        due("tablet behind a FAULT", tablet(x, "1 gur;"), -400);
        due("SYSTEMS", systems(x, "system a:gur;"), 1);
        due("tablet with one SYSTEM", tablet(x, "1 gur;"), 0);
        due("SYSTEMS with a FAULT", systems(x, "x"), -1);
        due("tablet with the SYSTEM that stays", tablet(x, "1 gur;"), 1);
    }

    private static void lengthOfTheText() {
        sentence("TEXT (likewise; at most 300 bytes)");
        dueTablet(upTo(299, "1 gur;"), 0, 0);
        dueTablet(upTo(300, "1 gur;"), 0, 0);
        dueTablet(upTo(301, "1 gur;"), -301, 1);
        dueTablet(upTo(400, "1 gur;"), -301, 1);
        dueTablet(upTo(440, "1 gur;"), -301, 1);
        dueTablet(blanks(293) + "1 gur;", 0, 0);
        dueTablet(blanks(294) + "1 gur;", 0, 0);
        dueTablet(blanks(295) + "1 gur;", -301, 1);
    }

    private static void howManyLines() {
        sentence("LINES, 1 to 12");
        dueTablet("", -1, 1);
        dueTablet(" \n ", -4, 1);
        for (int n = 1; n <= 12; n++) {
            ClayAccounts x = withUnits(UNITS);
            due(n + " LINES", tablet(x, "1 gur;".repeat(n)), 0);
            due("lines of " + n, x.lines(0), n);
        }
        dueTablet("1 gur;".repeat(13), -73, 4);
        dueTablet("1 gur;".repeat(20), -73, 4);
        String[] elevens = {"1 gur;", "total 1 gur;", "grand 1 gur;"};
        for (String last : elevens) {
            dueTablet("1 gur;".repeat(10) + last, 0, 0);
            dueTablet("1 gur;".repeat(11) + last, 0, 0);
            dueTablet("1 gur;".repeat(12) + last, -73, 4);
        }
        dueTablet("total 1 gur;".repeat(12), 0, 0);
        dueTablet("total 1 gur;".repeat(13), -145, 4);
    }

    private static void blanksBetweenTokens() {
        sentence("TOKENS, with blanks (32, 10) between them or not");
        for (int octet = 0; octet < 256; octet++) {
            char sign = (char) octet;
            boolean isBlank = octet == 32 || octet == 10;
            boolean goesOn = sign >= 'a' && sign <= 'z' || sign >= '0' && sign <= '9' || sign == '?';
            int behindCount = isBlank ? 0 : goesOn ? -1 : -2;
            // With a digit or ? it is a COUNT of two, whose UNIT is the NAME behind it.
            boolean isCount = sign >= '0' && sign <= '9' || sign == '?';
            dueTablet("1" + sign + " gur;", isBlank || isCount ? 0 : behindCount, isBlank || isCount ? 0 : 1);
            dueTablet("1" + sign + "gur;", behindCount, isBlank ? 0 : 1);
        }
        dueTablet("\n 1 \n gur \n x \n ; \n", 0, 0);
        dueTablet("1 gur;2 gur;total 3 gur;", 0, 0);
        dueTablet("1 gur;total3 gur;", -7, 1);
        dueTablet("1 gur2 ban;", -3, 1);
        dueTablet("1 gur 2ban;", -7, 1);
    }

    private static void amountsOfAnEntry() {
        sentence("each AMOUNT { AMOUNT } [ NAME ] ;   an ENTRY");
        dueTablet(";", -1, 1);
        dueTablet("x;", -1, 1);
        dueTablet("1 gur;", 0, 0);
        dueTablet("1 gur x;", 0, 0);
        dueTablet("1 gur x y;", -9, 1);
        dueTablet("1 gur x 1 ban;", -9, 1);
        dueTablet("1 gur 1 bariga 1 ban 1 sila;", 0, 0);
        dueTablet("1 gur 1 bariga 1 ban 1 sila x;", 0, 0);
        dueTablet(SMALL, "1 ee 1 dd 1 cc 1 bb 1 aa;", 0, 0);
        dueTablet(SMALL, "1 ee 1 dd 1 cc 1 bb 1 aa x;", 0, 0);
        dueTablet(SMALL, "1 ee 1 dd 1 cc 1 bb 1 aa 1 aa;", -28, 3);
        dueTablet("1 gur x;;", -9, 1);
        dueTablet("1 gur x", -8, 1);
    }

    private static void amountsOfATotalOrGrand() {
        sentence("or 'total' AMOUNT { AMOUNT } ;   or 'grand' AMOUNT { AMOUNT } ;");
        for (String word : new String[] {"total", "grand"}) {
            dueTablet(word, -6, 1);
            dueTablet(word + ";", -6, 1);
            dueTablet(word + " 1 gur;", 0, 0);
            dueTablet(word + " 1 gur 1 sila;", 0, 0);
            dueTablet(word + " 1 gur 1 bariga 1 ban 1 sila;", 0, 0);
            dueTablet(word + " 1 gur x;", -13, 1);
            dueTablet(word + " 1 gur sila;", -13, 1);
            dueTablet(word + " x;", -7, 1);
            dueTablet(word + " " + word + " 1 gur;", -7, 1);
            dueTablet("1 gur " + word + " 1 gur;", -7, 1);
            dueTablet(word + "s 1 gur;", -1, 1);
            dueTablet(word.substring(1) + " 1 gur;", -1, 1);
        }
        dueTablet("system 1 gur;", -1, 1);
    }

    private static void signsOfACount() {
        sentence("COUNT: a TOKEN of one or two digits and ?");
        for (String count : new String[] {"1", "9", "?", "12", "99", "?2", "?0", "1?", "9?", "??"}) {
            dueTablet(count + " gur;", 0, 0);
        }
        dueTablet(" gur;", -2, 1);
        for (String count : new String[] {"100", "111", "001", "???", "?11", "1?1", "11?", "1??", "?????", "1234567890"}) {
            dueTablet(count + " gur;", -1, 1);
            dueTablet("1 gur " + count + " ban;", -7, 1);
        }
    }

    private static void howFarACountGoes() {
        sentence("(it goes on as long as small letters, digits, ? do)");
        for (String count : new String[] {"1a", "?a", "1?a", "??z", "1gur", "12a", "1a?", "?z1"}) {
            dueTablet(count + " gur;", -1, 1);
        }
        dueTablet("1A gur;", -2, 1);
        dueTablet("1; gur;", -2, 1);
        dueTablet("?: gur;", -2, 1);
        dueTablet("?/ gur;", -2, 1);
        dueTablet("12 gur;", 0, 0);
        // A NAME goes on with letters and digits alone, so a ? behind it begins a COUNT.
        dueTablet("1 gur? ban;", 0, 0);
        dueTablet("1 gur?? ban;", -6, 2);
        dueTablet("1 gur??? ban;", -6, 1);
        dueTablet("1 gur?a ban;", -6, 1);
        dueTablet("1 gur1? ban;", -3, 1);
        ClayAccounts x = withUnits(UNITS);
        tablet(x, "1 gur? ban;");
        due("? of it", x.line(0, 0, 2), 1);
    }

    private static void namesOfUnits() {
        sentence("UNIT: a NAME of a UNIT");
        dueTablet("1 gur;", 0, 0);
        dueTablet("1 gu;", -3, 3);
        dueTablet("1 gurs;", -3, 3);
        dueTablet("1 barley;", -3, 3);
        dueTablet("1 silver;", -3, 3);
        dueTablet("1 x;", -3, 3);
        dueTablet("1 abcdefgh;", -3, 3);
        dueTablet("1 abcdefghi;", -3, 1);
        dueTablet("1 Gur;", -3, 1);
        dueTablet("1 total;", -3, 1);
        for (String unit : new String[] {"aa", "bb", "cc", "dd", "ee", "ff", "gg", "hh", "ii", "kk"}) {
            dueTablet(SMALL, "1 " + unit + ";", 0, 0);
        }
        dueTablet("system x:abcdefgh 2 abcdefgi;", "1 abcdefgi 1 abcdefgh;", 0, 0);
        dueTablet("system x:abcdefgh 2 abcdefgi;", "1 abcdefg;", -3, 3);
        // UNITS of SYSTEMS that are no more, or never were, are none.
        ClayAccounts x = withUnits("system a:b 2 c 2 d;");
        systems(x, "system e:f;");
        due("a UNIT of SYSTEMS that are no more", tablet(x, "1 b;"), -3);
        due("its fault", x.fault(), 3);
        systems(x, "system g:h;;");
        due("a UNIT of a text with a FAULT", tablet(x, "1 h;"), -3);
        due("its fault", x.fault(), 3);
        due("the UNIT that stays", tablet(x, "1 f b;"), 0);
    }

    private static void namesBehindAnEntry() {
        sentence("the NAME at the end of an ENTRY is none");
        dueTablet("1 gur x;", 0, 0);
        dueTablet("1 gur abcdefgh;", 0, 0);
        dueTablet("1 gur abcdefghi;", -7, 1);
        dueTablet("1 gur barley;", 0, 0);
        dueTablet("1 gur silver;", 0, 0);
        dueTablet("1 gur gu;", 0, 0);
        dueTablet("1 gur gurs;", 0, 0);
        for (String unit : new String[] {"gur", "bariga", "ban", "sila", "grain", "shekel", "mina"}) {
            dueTablet("1 gur " + unit + ";", -7, 1);
        }
        for (String word : new String[] {"system", "total", "grand"}) {
            dueTablet("1 gur " + word + ";", -7, 1);
            dueTablet("1 gur " + word + "s;", 0, 0);
        }
    }

    private static void oneSystemAndLesserUnits() {
        sentence("its AMOUNTS are of one SYSTEM, each UNIT lesser than the one ahead");
        String[] units = {"aa", "bb", "cc", "dd", "ee", "ff", "gg", "hh", "ii", "kk"};
        int[] systems = {0, 0, 0, 0, 0, 1, 1, 1, 1, 2};
        for (int i = 0; i < units.length; i++) {
            for (int j = 0; j < units.length; j++) {
                boolean good = systems[i] == systems[j] && j < i;
                dueTablet(SMALL, "1 " + units[i] + " 1 " + units[j] + ";", good ? 0 : -8, good ? 0 : 3);
            }
        }
        dueTablet(SMALL, "1 ee 1 cc 1 dd;", -13, 3);
        dueTablet(SMALL, "1 ee 1 cc 1 cc;", -13, 3);
        dueTablet(SMALL, "1 ee 1 cc 1 bb;", 0, 0);
        dueTablet(SMALL, "1 ee 1 cc 1 ff;", -13, 3);
        dueTablet(SMALL, "1 ee;1 ff;", 0, 0);
        dueTablet(SMALL, "1 aa;1 ee;", 0, 0);
        dueTablet(SMALL, "1 ii 1 hh 1 gg 1 ff;", 0, 0);
        dueTablet(SMALL, "total 1 ee 1 kk;", -14, 3);
        dueTablet(SMALL, "grand 1 aa 1 bb;", -14, 3);
    }

    private static void countsOfEachUnit() {
        sentence("A COUNT is 1 to FACTOR less 1 of the next greater UNIT, of the greatest one 1 to 99");
        String[] units = {"aa", "bb", "cc", "dd", "ee", "ff", "gg", "hh", "ii", "kk"};
        int[] mosts = {1, 2, 9, 10, 99, 11, 58, 59, 99, 99};
        for (int i = 0; i < units.length; i++) {
            for (int count = 0; count <= 99; count++) {
                boolean good = count >= 1 && count <= mosts[i];
                dueTablet(SMALL, count + " " + units[i] + ";", good ? 0 : -1, good ? 0 : 2);
            }
            dueTablet(SMALL, "100 " + units[i] + ";", -1, 1);
        }
        dueTablet("system a:b 60 c;", "59 b;", 0, 0);
        dueTablet("system a:b 60 c;", "60 b;", -1, 2);
        dueTablet("system a:b 60 c;", "99 c 59 b;", 0, 0);
        dueTablet("system a:b 60 c;", "99 c 60 b;", -6, 2);
    }

    /** Every COUNT of one and two signs, of a UNIT of every FACTOR, with all digits for its ? tried. */
    private static void countsByTrying() {
        sentence("2 a COUNT that can't be as told, whatever its ? are (at it");
        String signs = "0123456789?";
        for (int most = 1; most <= 99; most = most == 59 ? 99 : most + 1) {
            String units = most == 99 ? "system s:u;" : "system s:u " + (most + 1) + " v;";
            for (int i = 0; i < 11; i++) {
                dueTried(units, String.valueOf(signs.charAt(i)), most);
                for (int j = 0; j < 11; j++) {
                    dueTried(units, signs.charAt(i) + String.valueOf(signs.charAt(j)), most);
                }
            }
        }
    }

    private static void dueTried(String units, String count, int most) {
        int fillings = 0;
        int least = 0;
        int greatest = 0;
        for (int v = 1; v <= most; v++) {
            String told = String.valueOf(v);
            boolean fits = told.length() == count.length();
            for (int i = 0; i < told.length() && fits; i++) {
                fits = count.charAt(i) == '?' || count.charAt(i) == told.charAt(i);
            }
            if (fits) {
                fillings++;
                least = least == 0 ? v : least;
                greatest = v;
            }
        }
        String text = count + " u;";
        ClayAccounts x = withUnits(units);
        due("tablet of " + text + " with " + most, tablet(x, text), fillings > 0 ? 0 : -1);
        due("fault of " + text + " with " + most, x.fault(), fillings > 0 ? 0 : 2);
        if (fillings > 0) {
            due("readings of " + text + " with " + most, x.readings(0), fillings);
            due("least of " + text + " with " + most, x.bound(0, 0, false), least);
            due("greatest of " + text + " with " + most, x.bound(0, 0, true), greatest);
        }
    }

    private static void noughtAhead() {
        sentence("of two digits the first one is not 0");
        for (int ones = 0; ones <= 9; ones++) {
            dueTablet("0" + ones + " gur;", -1, 2);
            dueTablet("1" + ones + " gur;", 0, 0);
        }
        dueTablet("0? gur;", -1, 2);
        dueTablet("?0 gur;", 0, 0);
        dueTablet("1? gur;", 0, 0);
        dueTablet("0 gur;", -1, 2);
        dueTablet("1 gur 05 ban;", -7, 2);
        dueTablet("1 gur 5 ban;", 0, 0);
        ClayAccounts x = withUnits(UNITS);
        tablet(x, "?5 gur;");
        due("?5", x.readings(0), 9);
        due("the least of ?5", x.bound(0, 0, false), 15 * 300);
        tablet(x, "?? gur;");
        due("??", x.readings(1), 90);
        due("the least of ??", x.bound(1, 0, false), 10 * 300);
        due("the greatest of ??", x.bound(1, 0, true), 99 * 300);
        tablet(x, "? gur;");
        due("?", x.readings(2), 9);
        due("the least of ?", x.bound(2, 0, false), 300);
        due("the greatest of ?", x.bound(2, 0, true), 9 * 300);
    }

    private static void howManyBroken() {
        sentence("? are digits that are broken off, at most 4 in a TABLET");
        dueTablet("? gur;? gur;? gur;", 0, 0);
        dueTablet("? gur;? gur;? gur;? gur;", 0, 0);
        dueTablet("? gur;? gur;? gur;? gur;? gur;", -25, 4);
        dueTablet("?? gur;? gur;", 0, 0);
        dueTablet("?? gur;?? gur;", 0, 0);
        dueTablet("?? gur;?? gur;? gur;", -15, 4);
        dueTablet("?? gur;?? gur;1 gur;", 0, 0);
        dueTablet("?? gur;? gur;?? gur;", -14, 4);
        dueTablet("?? gur;? gur;1? gur;", 0, 0);
        dueTablet("?? gur ? bariga ? ban;", 0, 0);
        dueTablet("?? gur ? bariga ? ban ? sila;", -23, 4);
        dueTablet("?? gur ? bariga ? ban 1 sila;", 0, 0);
        // Each TABLET has four of its own; those of a text with a FAULT are no one's.
        ClayAccounts x = withUnits(UNITS);
        due("four", tablet(x, "?? gur;?? gur;"), 0);
        due("five", tablet(x, "?? gur;?? gur;? gur;"), -15);
        due("four more", tablet(x, "?? gur;?? gur;"), 1);
    }

    private static void whereTheTextEnds() {
        sentence("the end: how many bytes there are");
        String text = "1? gur 2 ban x; total 3 ban;";
        // Parts of the words gur, ban, total, and the COUNT 1 of 1?, are TOKENS of their own.
        int[] places = {0, 1, 2, 3, 3, 3, 6, 7, 8, 9, 9, 9, 12, 13, 14, -1, -1, 16, 16, 16, 16, 21, 22, 23, 24, 24, 24, 27};
        int[] kinds = {1, 1, 1, 1, 3, 3, 1, 1, 1, 1, 3, 3, 1, 1, 1, 0, 0, 1, 1, 1, 1, 1, 1, 1, 1, 3, 3, 1};
        for (int n = 0; n < text.length(); n++) {
            dueTablet(text.substring(0, n), places[n] < 0 ? 0 : -1 - places[n], kinds[n]);
        }
        dueTablet(text, 0, 0);
        dueTablet(upTo(299, "1 gur"), -300, 1);
        dueTablet(upTo(300, "1 gur"), -301, 1);
        dueTablet(upTo(301, "1 gur"), -301, 1);
        dueTablet(blanks(299), -300, 1);
        dueTablet(blanks(300), -301, 1);
        dueTablet(blanks(301), -301, 1);
    }

    private static void whereALongTextEnds() {
        sentence("if there are more and no FAULT is ahead");
        dueTablet(upTo(298, "1 gur;") + "x" + blanks(9), -299, 1);
        dueTablet(upTo(299, "1 gur;") + "x" + blanks(9), -300, 1);
        dueTablet(upTo(300, "1 gur;") + "x" + blanks(9), -301, 1);
        dueTablet(upTo(301, "1 gur;") + "x" + blanks(9), -301, 1);
        dueTablet(upTo(298, "1 gur;") + "0 gur;", -299, 2);
        dueTablet(upTo(299, "1 gur;") + "0 gur;", -300, 2);
        dueTablet(upTo(300, "1 gur;") + "0 gur;", -301, 1);
        dueTablet(upTo(298, "1") + "foo;", -299, 3);
        dueTablet(upTo(299, "1") + "foo;", -300, 3);
        dueTablet(upTo(300, "1") + "foo;", -301, 1);
        dueTablet(upTo(298, TWELVE) + "total", -299, 4);
        dueTablet(upTo(299, TWELVE) + "total", -300, 4);
        dueTablet(upTo(300, TWELVE) + "total", -301, 1);
        dueTablet(upTo(299, "?? gur;?? gur;") + "? gur;", -300, 4);
        dueTablet(upTo(300, "?? gur;?? gur;") + "? gur;", -301, 1);
        dueTablet(upTo(440, "0 gur;"), -1, 2);
        dueTablet(upTo(440, "1 foo;"), -3, 3);
        dueTablet(upTo(440, TWELVE + "1 gur;"), -73, 4);
        dueTablet("x".repeat(440), -1, 1);
    }

    private static void tokensAcrossTheEnd() {
        sentence("TOKENS that begin ahead of it are read whole");
        dueTablet(upTo(299, "1 gur") + "abcdefgh;", -301, 1);
        dueTablet(upTo(299, "1 gur") + "abcdefghi;", -300, 1);
        dueTablet(upTo(300, "1 gur") + "abcdefghi;", -301, 1);
        dueTablet(upTo(299, "1 gur") + "gur;", -300, 1);
        dueTablet(upTo(299, "1 gur") + "gurs;", -301, 1);
        dueTablet(upTo(299, "1") + "gur;", -301, 1);
        dueTablet(upTo(299, "1") + "gurs;", -300, 3);
        dueTablet(upTo(299, "1 gur;") + "12 gur;", -301, 1);
        dueTablet(upTo(299, "1 gur;") + "123 gur;", -300, 1);
        dueTablet(upTo(299, "1 gur;") + "1?? gur;", -300, 1);
        dueTablet(upTo(299, "1 gur;") + "01 gur;", -300, 2);
        dueTablet(upTo(299, "1 gur;") + "0? gur;", -300, 2);
        dueTablet(upTo(299, "1 gur;") + "total 1 gur;", -301, 1);
        dueTablet(upTo(299, "1 gur;") + "totals 1 gur;", -300, 1);
        dueTablet(upTo(299, "? gur;?? gur;") + "?? gur;", -300, 4);
        dueTablet(upTo(299, "? gur;?? gur;") + "?1 gur;", -301, 1);
        // The COUNT is measured by a UNIT that begins at 299, not by one that begins at 300.
        dueTablet(upTo(296, "1 gur;") + "60 shekel;", -297, 2);
        dueTablet(upTo(296, "1 gur;") + "59 shekel;", -301, 1);
        dueTablet(upTo(297, "1 gur;") + "60 shekel;", -301, 1);
        dueTablet(upTo(293, "1 gur;") + "1 gur;", 0, 0);
        dueTablet(upTo(294, "1 gur;") + "1 gur;", 0, 0);
        dueTablet(upTo(295, "1 gur;") + "1 gur;", -301, 1);
    }

    private static void whatCannotCome() {
        sentence("1 likewise (with 300; a COUNT, NAME where it can't come, too)");
        String text = "1 mina 22 shekel xx;total 3 mina;";
        int[] places = {0, 2, 7, 10, 17, 19, 20, 26, 28, 32};
        // What may come at each place: C a COUNT, U a UNIT, X a NAME that is none, S a ;, T total or grand.
        String[] mays = {"CT", "U", "CXS", "U", "CXS", "S", "CT", "C", "U", "CS"};
        String[] tokens = {"3", "?", "zz", "sila", ";", ":", "total", "grand", "system", "/", "=", "999", "9z", "zzzzzzzzz"};
        String kinds = "CCXUS.TT......";
        for (int i = 0; i < places.length; i++) {
            String ahead = text.substring(0, places[i]);
            for (int j = 0; j < tokens.length; j++) {
                boolean isName = kinds.charAt(j) == 'X' || kinds.charAt(j) == 'U';
                boolean may = mays[i].indexOf(kinds.charAt(j)) >= 0 || mays[i].equals("U") && isName;
                if (!may) {
                    dueTablet(ahead + " " + tokens[j] + " ", -2 - places[i], 1);
                }
            }
        }
        dueTablet(text, 0, 0);
        dueTablet("1 1;", -3, 1);
        dueTablet("1 gur 1;", -8, 1);
        dueTablet("1 gur x 1;", -9, 1);
        dueTablet("1 gur;gur;", -7, 1);
    }

    private static void countsWithoutAUnit() {
        sentence("if no UNIT is behind it, one that can't be of any UNIT: 0, or with a 0 ahead)");
        for (String behind : new String[] {"", " ", ";", " foo;", " barley;", " 1 gur;", ":", " total", " abcdefghi;", " Gur;"}) {
            for (String count : new String[] {"0", "00", "01", "09", "0?"}) {
                dueTablet(count + behind, -1, 2);
                dueTablet("1 gur " + count + behind, -7, 2);
            }
        }
        for (String count : new String[] {"1", "9", "10", "60", "99", "?", "?0", "9?", "??"}) {
            int size = count.length();
            dueTablet(count, -1 - size, 1);
            dueTablet(count + ";", -1 - size, 1);
            dueTablet(count + " foo;", -2 - size, 3);
            dueTablet(count + " barley;", -2 - size, 3);
            dueTablet(count + " 1 gur;", -2 - size, 1);
            dueTablet(count + " total;", -2 - size, 1);
        }
        // The NAME at the end of an ENTRY and the UNIT of the LINE behind are no UNITS of this COUNT.
        dueTablet("99;1 sila;", -3, 1);
    }

    private static void countsAheadOfAnyUnit() {
        sentence("2 a COUNT that can't be as told");
        dueTablet("1 gur 59 shekel;", -10, 3);
        dueTablet("1 gur 60 shekel;", -7, 2);
        dueTablet("1 gur 99 mina;", -10, 3);
        dueTablet("1 sila 5 ban;", -10, 3);
        dueTablet("1 sila 6 ban;", -8, 2);
        dueTablet("1 gur 99 gur;", -10, 3);
        dueTablet("1 ban 5 ban;", -9, 3);
        dueTablet("1 ban 6 ban;", -7, 2);
        dueTablet("1 ban ?? ban;", -7, 2);
        dueTablet("1 ban ? ban;", -9, 3);
    }

    private static void namesThatAreNoUnits() {
        sentence("3 a NAME where a UNIT must stand that is none, or is of another SYSTEM, or not lesser (at it)");
        dueTablet("1 foo;", -3, 3);
        dueTablet("1  foo;", -4, 3);
        dueTablet("99\nfoo;", -4, 3);
        dueTablet("1 gur 1 foo;", -9, 3);
        dueTablet("total 1 foo;", -9, 3);
        dueTablet("1 gur 1 mina;", -9, 3);
        dueTablet("1 mina 1 gur;", -10, 3);
        dueTablet("1 gur 1 gur;", -9, 3);
        dueTablet("1 bariga 1 gur;", -12, 3);
        dueTablet("1 gur 1 bariga;", 0, 0);
        dueTablet("1 gur 1 sila;", 0, 0);
        dueTablet("1 sila 1 sila;", -10, 3);
        dueTablet("1 ban 1 sila;", 0, 0);
        dueTablet("1 gur;1 gur;", 0, 0);
        dueTablet("1 gur;1 mina;", 0, 0);
    }

    private static void thirteenthLine() {
        sentence("4 a 13th LINE (at its first TOKEN)");
        dueTablet(TWELVE, 0, 0);
        dueTablet(TWELVE + "  ", 0, 0);
        for (String line : new String[] {"1 gur;", "? gur;", "1 foo;", "1", "99 ;", "total 1 gur;", "total", "total;", "grand x", "grand total"}) {
            dueTablet("1 gur;".repeat(11), 0, 0);
            dueTablet(TWELVE + line, -73, 4);
            dueTablet(TWELVE + " \n" + line, -75, 4);
        }
        for (String line : new String[] {";", "x", "gur", "system", ":", "/", "100 gur;", "1a gur;"}) {
            dueTablet(TWELVE + line, -73, 1);
        }
    }

    private static void fifthBroken() {
        sentence("a fifth ? (at its COUNT)");
        dueTablet("?? gur;?? gur ? bariga;", -15, 4);
        dueTablet("?? gur;? gur 1? mina;", -17, 3);
        dueTablet("? gur;?? gur;?? gur;", -14, 4);
        dueTablet("? gur;?? gur;?1 gur;", 0, 0);
        dueTablet("?? gur;?? gur;?1 gur;", -15, 4);
        dueTablet("?? gur;?? gur;1? gur;", -15, 4);
        dueTablet("?? gur;?? gur;?", -15, 4);
        dueTablet("?? gur;?? gur;? foo;", -15, 4);
        dueTablet("?? gur;?? gur;total ?? gur;", -21, 4);
        dueTablet("?? gur;?? gur;total 1 gur;", 0, 0);
    }

    private static void firstAndLeastFault() {
        sentence("FAULTS, the first along the text, of one TOKEN the least");
        // Of a COUNT: no TOKEN, then what it can't be, then the 13th LINE and the fifth ?.
        dueTablet("?? gur;?? gur;??? gur;", -15, 1);
        dueTablet("?? gur;?? gur;0? gur;", -15, 2);
        dueTablet("?? gur;?? gur;?? ban;", -15, 2);
        dueTablet("?? gur;?? gur;?? gur;", -15, 4);
        dueTablet(TWELVE + "100 gur;", -73, 1);
        dueTablet(TWELVE + "0 gur;", -73, 2);
        dueTablet(TWELVE + "6 ban;", -73, 2);
        dueTablet(TWELVE + "5 ban;", -73, 4);
        dueTablet(TWELVE + "05", -73, 2);
        // What is ahead along the text, whatever its kind.
        dueTablet("1 foo;0 gur;", -3, 3);
        dueTablet("0 gur;1 foo;", -1, 2);
        dueTablet("0 foo;", -1, 2);
        dueTablet("1 foo 0 gur;/", -3, 3);
        dueTablet("1 gur 1 gur;/", -9, 3);
        dueTablet("1 gur/1 gur 1 gur;", -6, 1);
        dueTablet("?? gur;?? gur;? gur;0 gur;", -15, 4);
        dueTablet("?? gur;?? gur;0 gur;? gur;", -15, 2);
        dueTablet("1 gur;".repeat(11) + "1 foo;1 gur;", -69, 3);
        dueTablet("1 gur;".repeat(11) + "?? gur ? ban ?? sila;1 gur;", -80, 2);
    }

    private static void allStays() {
        sentence("-1 less the place of its FAULT");
        ClayAccounts x = withUnits(UNITS);
        tablet(x, "? ban x;? ban y;total ? bariga;");
        fragment(x, "1 gur", 0, 1);
        fragment(x, ";", 99999998, 0);
        x.match();
        x.write(0, 634);
        String before = state(x);
        String[] texts = {"", "0 gur;", "1 foo;", TWELVE + "1 gur;", "?? gur;?? gur;? gur;", blanks(301), "1 gur"};
        int[] wants = {-1, -1, -3, -73, -15, -301, -6};
        for (int i = 0; i < texts.length; i++) {
            due("tablet of \"" + texts[i] + "\"", tablet(x, texts[i]), wants[i]);
            due("the tape", x.count(4), 0);
        }
        due("what is there", state(x), before);
        due("the next TABLET", tablet(x, "1 gur;"), 1);
        due("its LINES", x.lines(1), 1);
        due("its ?", x.line(1, 0, 2), 0);
        due("its VALUE", x.line(1, 0, 3), 300);
    }
}
