/** The boundaries that the document names of SYSTEMS, of what is asked of them, and of OUT. */
public final class SystemsBoundaryTests extends Check {
    private static final String FIVE = "system a:b 2 c 2 d 2 e 2 f";
    private static final String THREE = "system a:b;system c:d;system e:f;";
    private static final String GREAT = "system g:gg 60 hh 60 ii 60 jj 60 kk;";

    public static void main(String[] args) {
        lengthOfTheText();
        blanksBetweenTokens();
        lettersOfNames();
        digitsOfNumbers();
        signs();
        howFarTokensGo();
        wordsThatAreNoNames();
        howManySystems();
        howManyUnits();
        factors();
        whatCannotCome();
        whereTheTextEnds();
        whereALongTextEnds();
        tokensAcrossTheEnd();
        namesThatAreThere();
        fourthSystem();
        sixthUnit();
        firstAndLeastFault();
        howMany();
        allStays();
        faultKinds();
        questionsOfASystem();
        unitsThatAreNone();
        valuesToWrite();
        greatestValues();
        countsOfNought();
        outStays();
        bytesOfOut();
        finish("SystemsBoundaryTests");
    }

    private static void lengthOfTheText() {
        sentence("SYSTEMS are a text of at most 400 bytes.");
        dueSystems(upTo(399, "system a:b;"), 1, 0);
        dueSystems(upTo(400, "system a:b;"), 1, 0);
        dueSystems(upTo(401, "system a:b;"), -401, 1);
        dueSystems(upTo(440, "system a:b;"), -401, 1);
        // The last byte of all is the one that counts.
        dueSystems(blanks(388) + "system a:b;", 1, 0);
        dueSystems(blanks(389) + "system a:b;", 1, 0);
        dueSystems(blanks(390) + "system a:b;", -401, 1);
    }

    private static void blanksBetweenTokens() {
        sentence("TOKENS, with blanks (32, 10) between them or not");
        for (int octet = 0; octet < 256; octet++) {
            char sign = (char) octet;
            boolean isBlank = octet == 32 || octet == 10;
            boolean isPartOfName = sign >= 'a' && sign <= 'z' || sign >= '0' && sign <= '9';
            // What goes on with 'system' makes another NAME of it, which can't come at 0.
            dueSystems("system" + sign + "a:b;", isBlank ? 1 : isPartOfName ? -1 : -7, isBlank ? 0 : 1);
        }
        dueSystems("system a:b 2 c;", 1, 0);
        dueSystems(" \n system \n a \n\n : b  2  c ; \n", 1, 0);
        dueSystems("system\na:b\n2\nc;", 1, 0);
        dueSystems("system a:b 2c;", -12, 1);
        dueSystems("system a:b2 c;", -10, 1);
        dueSystems("systema:b;", -1, 1);
        dueSystems("system a:b;system c:d;", 2, 0);
    }

    private static void lettersOfNames() {
        sentence("NAMES: small letters, 1 to 8");
        dueSystems("system :b;", -8, 1);
        dueSystems("system abcdefg:b;", 1, 0);
        dueSystems("system abcdefgh:b;", 1, 0);
        dueSystems("system abcdefghi:b;", -8, 1);
        dueSystems("system a:;", -10, 1);
        dueSystems("system a:b;", 1, 0);
        dueSystems("system a:bcdefgh;", 1, 0);
        dueSystems("system a:bcdefghi;", 1, 0);
        dueSystems("system a:bcdefghij;", -10, 1);
        dueSystems("system a:b 2 cdefghij;", 1, 0);
        dueSystems("system a:b 2 cdefghijk;", -14, 1);
        dueSystems("system a:b 2 " + "z".repeat(99) + ";", -14, 1);
        for (int octet = 0; octet < 256; octet++) {
            char sign = (char) octet;
            boolean isLetter = sign >= 'a' && sign <= 'z';
            boolean isBlank = octet == 32 || octet == 10;
            // Behind a blank the ; can't come where the NAME of a UNIT is due.
            dueSystems("system aa:" + sign + ";", isLetter ? 1 : isBlank ? -12 : -11, isLetter ? 0 : 1);
        }
    }

    private static void digitsOfNumbers() {
        sentence("NUMBERS: 1 to 2 digits");
        dueSystems("system a:b c;", -12, 1);
        dueSystems("system a:b 9 c;", 1, 0);
        dueSystems("system a:b 10 c;", 1, 0);
        dueSystems("system a:b 010 c;", -12, 1);
        dueSystems("system a:b 100 c;", -12, 1);
        dueSystems("system a:b " + "2".repeat(50) + " c;", -12, 1);
        for (int octet = 0; octet < 256; octet++) {
            char sign = (char) octet;
            boolean isDigit = sign >= '0' && sign <= '9';
            boolean isBlank = octet == 32 || octet == 10;
            int fault = isDigit || isBlank ? 0 : 1;
            // 5 and a sign: one NUMBER, no TOKEN at 11, or no TOKEN at 12.
            boolean isLetter = sign >= 'a' && sign <= 'z';
            dueSystems("system a:b 5" + sign + " c;", fault == 0 ? 1 : isLetter ? -12 : -13, fault);
        }
    }

    private static void signs() {
        sentence("SIGNS : ;");
        for (int octet = 0; octet < 256; octet++) {
            char sign = (char) octet;
            boolean isBlank = octet == 32 || octet == 10;
            if (sign >= 'a' && sign <= 'z' || sign >= '0' && sign <= '9') {
                continue;
            }
            // Behind a blank the next TOKEN can't come.
            dueSystems("system a" + sign + "b;", sign == ':' ? 1 : isBlank ? -10 : -9, sign == ':' ? 0 : 1);
            dueSystems("system a:b" + sign, sign == ';' ? 1 : isBlank ? -12 : -11, sign == ';' ? 0 : 1);
        }
        dueSystems("system a::b;", -10, 1);
        dueSystems("system a:b;;", -12, 1);
    }

    private static void howFarTokensGo() {
        sentence("(A NAME, NUMBER goes on as long as small letters and digits do; what is not as told is no TOKEN.)");
        dueSystems("system a:bc;", 1, 0);
        dueSystems("system a:b1;", -10, 1);
        dueSystems("system a:b1c;", -10, 1);
        dueSystems("system a:bC;", -11, 1);
        dueSystems("system a:b?;", -11, 1);
        dueSystems("system a:b 2c;", -12, 1);
        dueSystems("system a:b 2 c;", 1, 0);
        dueSystems("system a:b 22c;", -12, 1);
        dueSystems("system a:b 2C;", -13, 1);
        dueSystems("system a:b 2?c;", -13, 1);
        // As a whole it has nine signs, though its letters are eight.
        dueSystems("system abcdefgh1:b;", -8, 1);
        dueSystems("system a:b 12d c;", -12, 1);
    }

    private static void wordsThatAreNoNames() {
        sentence("The NAMES system, total, grand are none of these where NAME stands below.");
        for (String word : new String[] {"system", "total", "grand"}) {
            dueSystems("system " + word + ":b;", -8, 1);
            dueSystems("system a:" + word + ";", -10, 1);
            dueSystems("system a:b 2 " + word + ";", -14, 1);
            String shorter = word.substring(0, word.length() - 1);
            dueSystems("system " + shorter + ":b 2 " + word + "s;", 1, 0);
            dueSystems("system " + word + "s:" + shorter + ";", 1, 0);
        }
        dueSystems("systems a:b;", -1, 1);
        dueSystems("syste a:b;", -1, 1);
        dueSystems("total a:b;", -1, 1);
        dueSystems("grand a:b;", -1, 1);
    }

    private static void howManySystems() {
        sentence("TEXT: SYSTEM { SYSTEM } (at most 3).");
        dueSystems("", -1, 1);
        dueSystems(" ", -2, 1);
        dueSystems("system a:b;", 1, 0);
        dueSystems("system a:b;system c:d;", 2, 0);
        dueSystems(THREE, 3, 0);
        dueSystems(THREE + "system g:h;", -34, 4);
    }

    private static void howManyUnits() {
        sentence("its UNITS (1 to 5) from the least on");
        dueSystems("system a:;", -10, 1);
        String[] texts = {"system a:b", "system a:b 2 c", "system a:b 2 c 2 d", "system a:b 2 c 2 d 2 e", FIVE};
        for (int n = 1; n <= 5; n++) {
            dueSystems(texts[n - 1] + ";", 1, 0);
            due("UNITS of " + texts[n - 1], withUnits(texts[n - 1] + ";").system(0, 0), n);
        }
        dueSystems(FIVE + " 2 g;", -28, 4);
        ClayAccounts x = withUnits("system a:b 3 c 5 d;");
        due("the least UNIT", x.write(0, 1), 3);
        dueOut(x, "1 b");
        due("the greatest UNIT", x.write(0, 15), 3);
        dueOut(x, "1 d");
        // As many as may be of all: three SYSTEMS of five UNITS each.
        String most = "system a:b 2 c 3 d 4 e 5 f;system g:h 6 i 7 j 8 k 9 l;system m:n 10 o 11 p 12 q 13 r;";
        ClayAccounts y = withUnits(most);
        due("three SYSTEMS", y.count(0), 3);
        for (int s = 0; s < 3; s++) {
            for (int u = 1; u <= 4; u++) {
                due("the FACTOR " + u + " of SYSTEM " + s, y.system(s, u), 4 * s + u + 1);
            }
        }
    }

    private static void factors() {
        sentence("the FACTOR (2 to 60), how many of the one make the next one");
        for (int n = 0; n <= 99; n++) {
            boolean good = n >= 2 && n <= 60;
            dueSystems("system a:b " + n + " c;", good ? 1 : -12, good ? 0 : 2);
            String two = n < 10 ? "0" + n : String.valueOf(n);
            dueSystems("system a:b 7 c " + two + " d;", good ? 1 : -16, good ? 0 : 2);
            if (good) {
                due("the FACTOR " + two, withUnits("system a:b 7 c " + two + " d;").system(0, 2), n);
            }
        }
        dueSystems("system a:b 60 c 60 d 60 e 60 f;", 1, 0);
        dueSystems("system a:b 60 c 60 d 60 e 61 f;", -27, 2);
        dueSystems("system a:b 2 c 2 d 2 e 1 f;", -24, 2);
    }

    private static void whatCannotCome() {
        sentence("1 no TOKEN, or one that can't come (at it;");
        String text = "system aa:bb 22 cc;";
        int[] places = {0, 7, 9, 10, 13, 16, 18};
        // At each place all TOKENS but the one that can come there, and what is none.
        String[] tokens = {"system", "aa", ":", "bb", "22", "cc", ";"};
        String[] others = {"total", "dd", ":", "grand", "33", ";", "/", "?", "system"};
        for (int i = 0; i < places.length; i++) {
            for (String other : others) {
                boolean isNameBoth = other.equals("dd") && (i == 1 || i == 3 || i == 5);
                boolean isNumberBoth = other.equals("33") && (i == 4 || i == 6);
                boolean isEndEarly = other.equals(";") && i == 4;
                if (other.equals(tokens[i]) || isNameBoth || isNumberBoth || isEndEarly) {
                    continue;
                }
                String ahead = text.substring(0, places[i]);
                dueSystems(ahead + " " + other + " ", -2 - places[i], 1);
            }
        }
        dueSystems(text, 1, 0);
    }

    private static void whereTheTextEnds() {
        sentence("the end: how many bytes there are;");
        String text = "system aa: bb 22 cc; system dd:ee;";
        for (int n = 0; n < text.length(); n++) {
            String cut = text.substring(0, n);
            // A part of the word 'system' is another NAME.
            boolean inFirstWord = n >= 1 && n <= 5;
            boolean inSecondWord = n >= 22 && n <= 26;
            boolean whole = n == 20 || n == 21;
            int want = whole ? 1 : inFirstWord ? -1 : inSecondWord ? -22 : -1 - n;
            dueSystems(cut, want, whole ? 0 : 1);
            if (!whole && !inFirstWord && !inSecondWord) {
                dueSystems(cut + " \n", -3 - n, 1);
            }
        }
        dueSystems(text, 2, 0);
        // At 399 and 400 the end is as many bytes; from 401 on it is 400.
        dueSystems(upTo(399, "system a:b"), -400, 1);
        dueSystems(upTo(400, "system a:b"), -401, 1);
        dueSystems(upTo(401, "system a:b"), -401, 1);
        dueSystems(blanks(399), -400, 1);
        dueSystems(blanks(400), -401, 1);
        dueSystems(blanks(440), -401, 1);
    }

    private static void whereALongTextEnds() {
        sentence("400, if there are more and no FAULT is ahead:");
        dueSystems(upTo(398, "system a:b;") + "x" + blanks(41), -399, 1);
        dueSystems(upTo(399, "system a:b;") + "x" + blanks(40), -400, 1);
        dueSystems(upTo(400, "system a:b;") + "x" + blanks(39), -401, 1);
        dueSystems(upTo(401, "system a:b;") + "x" + blanks(38), -401, 1);
        // What stands from 400 on is not looked at.
        dueSystems(upTo(400, "system a:b;") + "system c:d;", -401, 1);
        dueSystems(upTo(400, "system a:b;") + "system a:b 61 c;", -401, 1);
        dueSystems(upTo(400, THREE) + "system", -401, 1);
        dueSystems(upTo(399, THREE) + "system", -400, 4);
        dueSystems(upTo(400, "system a:") + "a;", -401, 1);
        dueSystems(upTo(399, "system a:") + "a;", -400, 3);
        dueSystems(upTo(400, "system a:b") + "61", -401, 1);
        dueSystems(upTo(399, "system a:b") + "61", -400, 2);
        dueSystems(upTo(400, FIVE) + "2 g;", -401, 1);
        dueSystems(upTo(399, FIVE) + "2 g;", -400, 4);
        // A FAULT of any kind that is ahead comes first, however long the text is.
        dueSystems(upTo(440, "system a:a;"), -10, 3);
        dueSystems(upTo(440, "system a:b 1 c;"), -12, 2);
        dueSystems(upTo(440, THREE + "system"), -34, 4);
        dueSystems(upTo(440, FIVE + " 2 g;"), -28, 4);
        dueSystems("x".repeat(440), -1, 1);
    }

    private static void tokensAcrossTheEnd() {
        sentence("TOKENS that begin ahead of it are read whole");
        dueSystems(upTo(398, "system a:") + "bbbbbbbb;", -401, 1);
        dueSystems(upTo(399, "system a:") + "bbbbbbbb;", -401, 1);
        dueSystems(upTo(399, "system a:") + "bbbbbbbbb;", -400, 1);
        dueSystems(upTo(400, "system a:") + "bbbbbbbbb;", -401, 1);
        dueSystems(upTo(399, "system a:") + "b1;", -400, 1);
        dueSystems(upTo(392, "system a:") + "bbbbbbbb;", -401, 1);
        dueSystems(upTo(391, "system a:") + "bbbbbbbb;", 1, 0);
        dueSystems(upTo(391, "system a:") + "bbbbbbbbb;", -392, 1);
        dueSystems(upTo(392, "system a:") + "bbbbbbbbb;", -393, 1);
        // Its first letter is there already, the whole NAME is not, and the other way round.
        dueSystems(upTo(399, "system b:") + "b;", -400, 3);
        dueSystems(upTo(399, "system b:") + "bc;", -401, 1);
        dueSystems(upTo(399, "system bc:") + "bc;", -400, 3);
        dueSystems(upTo(399, "system a:b") + "6 c;", -401, 1);
        dueSystems(upTo(399, "system a:b") + "60 c;", -401, 1);
        dueSystems(upTo(399, "system a:b") + "61 c;", -400, 2);
        dueSystems(upTo(399, "system a:b") + "600 c;", -400, 1);
        dueSystems(upTo(399, "system a:b") + "1 c;", -400, 2);
        dueSystems(upTo(399, "system a:b") + "12 c;", -401, 1);
        dueSystems(upTo(399, "system a:b;") + "system c:d;", -401, 1);
        dueSystems(upTo(399, "system a:b;") + "syste c:d;", -400, 1);
        dueSystems(upTo(399, "system a:") + "total;", -400, 1);
        dueSystems(upTo(399, "system a:") + "totals;", -401, 1);
        // A NAME that goes on to the very end of the tape.
        dueSystems(upTo(432, "system a:b;") + "aaaaaaaa", -401, 1);
        dueSystems(upTo(399, "system a:") + "b".repeat(41), -400, 1);
    }

    private static void namesThatAreThere() {
        sentence("3 a NAME that is there already, of a SYSTEM or a UNIT (at it)");
        dueSystems("system a:a;", -10, 3);
        dueSystems("system a:aa;", 1, 0);
        dueSystems("system aa:a;", 1, 0);
        dueSystems("system a:b 2 a;", -14, 3);
        dueSystems("system a:b 2 b;", -14, 3);
        dueSystems("system a:b 2 c 2 d 2 e 2 b;", -26, 3);
        dueSystems("system a:b;system a:c;", -19, 3);
        dueSystems("system a:b;system b:c;", -19, 3);
        dueSystems("system a:b;system c:c;", -21, 3);
        dueSystems("system a:b;system c:a;", -21, 3);
        dueSystems("system a:b;system c:b;", -21, 3);
        dueSystems("system a:b;system c:d 2 b;", -25, 3);
        dueSystems("system a:b 2 c;system d:c;", -25, 3);
        dueSystems("system a:b;system c:d;system e:d;", -32, 3);
        // NAMES that differ in their last letter, their first one, or in how many they have.
        dueSystems("system abcdefgh:abcdefgh;", -17, 3);
        dueSystems("system abcdefgh:abcdefgi;", 1, 0);
        dueSystems("system abcdefgh:bbcdefgh;", 1, 0);
        dueSystems("system abcdefgh:abcdefg;", 1, 0);
        dueSystems("system abcdefg:abcdefgh;", 1, 0);
        dueSystems("system abcd:efgh 2 abcdefgh;", 1, 0);
        // NAMES of SYSTEMS that are no more, or never were, are free.
        ClayAccounts x = withUnits("system a:b 2 c;");
        due("NAMES of SYSTEMS that are no more", systems(x, "system b:c 2 a;"), 1);
        due("a FAULT behind new NAMES", systems(x, "system d:e 2 f;x"), -16);
        due("the NAMES of that text", systems(x, "system d:e 2 f;"), 1);
    }

    private static void fourthSystem() {
        sentence("4 a fourth 'system'");
        dueSystems(THREE, 3, 0);
        dueSystems(THREE + "syste", -34, 1);
        dueSystems(THREE + "system", -34, 4);
        dueSystems(THREE + "systems", -34, 1);
        dueSystems(THREE + " system;", -35, 4);
        dueSystems(THREE + "system a:a 61 a;", -34, 4);
        dueSystems("system a:b;system c:d;system e:f;;", -34, 1);
        dueSystems("system a:b;system c:d;system", -29, 1);
    }

    private static void sixthUnit() {
        sentence("a sixth UNIT (at it; of the UNIT: at the NUMBER ahead of it)");
        dueSystems("system a:b 2 c 2 d 2 e 2 f 2 g;", -28, 4);
        dueSystems("system a:b 2 c 2 d 2 e 2 f  60  g;", -29, 4);
        dueSystems("system a:b 2 c 2 d 2 e 2 f;", 1, 0);
        dueSystems("system a:b 2 c 2 d 2 e;", 1, 0);
        dueSystems("system x:y;system a:b 2 c 2 d 2 e 2 f 2 g;", -39, 4);
        dueSystems("system x:y 2 z 2 w 2 v;system a:b 2 c;", 2, 0);
        dueSystems(FIVE + " g;", -28, 1);
    }

    private static void firstAndLeastFault() {
        sentence("FAULTS, the first along the text, of one TOKEN the least");
        // Of the NUMBER ahead of a sixth UNIT: no TOKEN, then the FACTOR, then the UNIT.
        dueSystems(FIVE + " 222 g;", -28, 1);
        dueSystems(FIVE + " 2g;", -28, 1);
        dueSystems(FIVE + " 1 g;", -28, 2);
        dueSystems(FIVE + " 61 g;", -28, 2);
        dueSystems(FIVE + " 60 g;", -28, 4);
        dueSystems(FIVE + " 2 g;", -28, 4);
        // What is ahead along the text, whatever its kind.
        dueSystems(FIVE + " 2 a;", -28, 4);
        dueSystems("system a:b 1 a;", -12, 2);
        dueSystems("system a:a 1 b;", -10, 3);
        dueSystems("system a:b 2 a 1 c;", -14, 3);
        dueSystems("system a:b 2 c1 1 c;", -14, 1);
        dueSystems("system a:b 1 c1;", -12, 2);
        dueSystems("system a:b;system a:b;/", -19, 3);
        dueSystems("/system a:a;", -1, 1);
        dueSystems(THREE + "/system", -34, 1);
    }

    private static void howMany() {
        sentence("The tape (empty then, here and below) are the SYSTEMS: how many (no TABLETS, MATCH then; FRAGMENTS stay)");
        ClayAccounts x = withUnits("system a:b;system c:d;");
        due("the tape", x.count(4), 0);
        due("SYSTEMS", x.count(0), 2);
        tablet(x, "1 b;");
        fragment(x, "1 b", 0, 1);
        fragment(x, ";", 99999998, 0);
        due("match", x.match(), 1);
        x.write(0, 7);
        for (String text : new String[] {THREE, "system a:b;system c:d;", "system a:b;"}) {
            int want = text.length() / 11;
            due("systems " + text, systems(x, text), want);
            due("SYSTEMS", x.count(0), want);
            due("TABLETS", x.count(1), 0);
            due("FRAGMENTS", x.count(2), 2);
            due("SURE pairs", x.count(3), 0);
            due("the tape", x.count(4), 0);
            due("matched", x.matched(0), -1);
            due("lines", x.lines(0), -1);
            dueOut(x, "7 b");
            due("match", x.match(), 1);
            due("SURE pairs", x.count(3), 1);
            due("tablet", tablet(x, "2 b;"), 0);
        }
        // The tape is empty behind each call that takes it: the next text begins at its first byte.
        due("a text with a FAULT", systems(x, "system"), -7);
        due("the tape", x.count(4), 0);
        due("feed", x.feed(0x73797374, 0x656d2061, 0x3a623b20, 0x20202020, 0x20202020), 20);
        due("the text behind it", x.systems(), 1);
        due("an empty tape", x.systems(), -1);
    }

    private static void allStays() {
        sentence("-1 less the place of its FAULT: all stays");
        String[] texts = {"", "x", "system", "system q:r;x", "system q:r 61 s;", "system q:r 2 q;",
            THREE + "system", FIVE + " 2 g;", upTo(401, "system q:r;"), upTo(400, "system q:r")};
        int[] wants = {-1, -1, -7, -12, -12, -14, -34, -28, -401, -401};
        ClayAccounts x = withUnits("system a:b 9 c;");
        tablet(x, "? b;1 c;total 1 c ? b;");
        fragment(x, "1 c", 0, 1);
        fragment(x, ";", 99999998, 0);
        x.match();
        x.write(0, 11);
        String before = state(x);
        for (int i = 0; i < texts.length; i++) {
            due("systems of \"" + texts[i] + "\"", systems(x, texts[i]), wants[i]);
            due("the tape", x.count(4), 0);
        }
        due("what is there", state(x), before);
    }

    private static void faultKinds() {
        sentence("The kind of the FAULT of the latest systems() or tablet() that did not tell -400; 0 without one and ahead of any.");
        ClayAccounts x = new ClayAccounts();
        due("ahead of any", x.fault(), 0);
        due("tablet without SYSTEMS", tablet(x, "x"), -400);
        due("behind -400", x.fault(), 0);
        fragment(x, "x", -1, 0);
        due("behind a refused fragment", x.fault(), 0);
        systems(x, "x");
        due("kind 1", x.fault(), 1);
        systems(x, "system a:b 1 c;");
        due("kind 2", x.fault(), 2);
        due("tablet without SYSTEMS", tablet(x, "1 b;"), -400);
        due("behind -400", x.fault(), 2);
        systems(x, "system a:a;");
        due("kind 3", x.fault(), 3);
        systems(x, THREE + "system");
        due("kind 4", x.fault(), 4);
        systems(x, "system a:b;");
        due("without one", x.fault(), 0);
        for (int t = 0; t < 8; t++) {
            tablet(x, t == 0 ? "0 b;" : "1 b;");
            due("fault of tablet " + t, x.fault(), t == 0 ? 2 : 0);
        }
        tablet(x, "1 a;");
        due("kind 3 of a TABLET", x.fault(), 3);
        due("the eighth TABLET", tablet(x, "1 b;"), 7);
        due("without one", x.fault(), 0);
        due("a ninth TABLET with a FAULT", tablet(x, "0 b;"), -400);
        due("behind -400", x.fault(), 0);
        systems(x, "system a:b 1 c;");
        due("a ninth TABLET", tablet(x, "1 b;"), -400);
        due("behind -400 of a ninth TABLET", x.fault(), 2);
        // A place of 398, 399, 400 is told with its kind; -400 as no TABLET is tablet()'s own.
        due("place 398", systems(x, upTo(398, "system a:") + "a;"), -399);
        due("kind at 398", x.fault(), 3);
        due("place 399", systems(x, upTo(399, "system a:b;") + "/"), -400);
        due("kind at 399", x.fault(), 1);
        systems(x, "system a:b 1 c;");
        due("place 400", systems(x, upTo(401, "system a:b;")), -401);
        due("kind at 400", x.fault(), 1);
    }

    private static void questionsOfASystem() {
        sentence("NoSuchElementException: no SYSTEM, or another what.");
        ClayAccounts none = new ClayAccounts();
        due("system(0, 0) without SYSTEMS", orThrows(() -> none.system(0, 0)), THROWS);
        systems(none, "system a:a;");
        due("system(0, 0) behind a FAULT", orThrows(() -> none.system(0, 0)), THROWS);
        for (int n = 1; n <= 3; n++) {
            ClayAccounts x = withUnits(THREE.substring(0, 11 * n));
            for (int s : new int[] {LEAST, -2, -1, 0, 1, 2, 3, 4, GREATEST}) {
                boolean is = s >= 0 && s < n;
                due("system(" + s + ", 0) of " + n, orThrows(() -> x.system(s, 0)), is ? 1 : THROWS);
                due("system(" + s + ", 4) of " + n, orThrows(() -> x.system(s, 4)), is ? -1 : THROWS);
                due("system(" + s + ", 5) of " + n, orThrows(() -> x.system(s, 5)), THROWS);
            }
        }
        ClayAccounts x = withUnits("system a:b 3 c 4 d 5 e 6 f;");
        int[] whats = {LEAST, -2, -1, 0, 1, 2, 3, 4, 5, 6, GREATEST};
        int[] wants = {THROWS, THROWS, THROWS, 5, 3, 4, 5, 6, THROWS, THROWS, THROWS};
        for (int i = 0; i < whats.length; i++) {
            int what = whats[i];
            due("system(0, " + what + ")", orThrows(() -> x.system(0, what)), wants[i]);
        }
    }

    private static void unitsThatAreNone() {
        sentence("1 to 4 the FACTOR between UNIT what and the one ahead (NONE: no such UNIT)");
        String[] texts = {"system a:b;", "system a:b 3 c;", "system a:b 3 c 4 d;", "system a:b 3 c 4 d 5 e;", "system a:b 3 c 4 d 5 e 6 f;"};
        for (int n = 1; n <= 5; n++) {
            // The SYSTEMS ahead had all UNITS: none of them is left.
            ClayAccounts x = withUnits("system a:b 11 c 12 d 13 e 14 f;");
            systems(x, texts[n - 1]);
            due("UNITS", x.system(0, 0), n);
            for (int what = 1; what <= 4; what++) {
                due("system(0, " + what + ") of " + n + " UNITS", x.system(0, what), what < n ? what + 2 : -1);
            }
        }
        ClayAccounts x = withUnits("system a:b 60 c 2 d;system e:f;");
        due("the greatest FACTOR", x.system(0, 1), 60);
        due("the least FACTOR", x.system(0, 2), 2);
        due("behind the last UNIT", x.system(0, 3), -1);
        due("a SYSTEM of one UNIT", x.system(1, 1), -1);
    }

    private static void valuesToWrite() {
        sentence("NONE (OUT stays): no SYSTEM, v below 1");
        ClayAccounts none = new ClayAccounts();
        due("write without SYSTEMS", none.write(0, 1), -1);
        due("OUT", none.count(5), 0);
        ClayAccounts x = withUnits("system a:b;system c:d 2 e;");
        for (int s : new int[] {LEAST, -1, 0, 1, 2, 3, GREATEST}) {
            due("write(" + s + ", 1)", x.write(s, 1), s == 0 || s == 1 ? 3 : -1);
        }
        for (int v : new int[] {LEAST, -99, -2, -1, 0, 1, 2}) {
            due("write(0, " + v + ")", x.write(0, v), v < 1 ? -1 : 3);
        }
    }

    private static void greatestValues() {
        sentence("or the greatest UNIT's COUNT would be above 99");
        String[] units = {"system a:b;", "system a:b 2 c;", "system a:b 60 c;", "system a:b 10 c 6 d 5 e;", "system a:b 2 c 2 d 2 e 2 f;", GREAT};
        int[] worths = {1, 2, 60, 300, 16, 12960000};
        for (int i = 0; i < units.length; i++) {
            ClayAccounts x = withUnits(units[i]);
            due("98 whole ones of " + units[i], x.write(0, 98 * worths[i]) > 0, true);
            due("99 whole ones of " + units[i], x.write(0, 99 * worths[i]) > 0, true);
            due("the greatest VALUE but one of " + units[i], x.write(0, 100 * worths[i] - 2) > 0, true);
            due("the greatest VALUE of " + units[i], x.write(0, 100 * worths[i] - 1) > 0, true);
            due("one more of " + units[i], x.write(0, 100 * worths[i]), -1);
            due("two more of " + units[i], x.write(0, 100 * worths[i] + 1), -1);
            due("the greatest int of " + units[i], x.write(0, GREATEST), -1);
            due("the greatest int but one of " + units[i], x.write(0, GREATEST - 1), -1);
        }
        ClayAccounts x = withUnits(GREAT);
        due("write(0, 1295999999)", x.write(0, 1295999999), 29);
        dueOut(x, "99 kk 59 jj 59 ii 59 hh 59 gg");
    }

    private static void countsOfNought() {
        sentence("the greatest UNIT first, COUNTS of 0 left out, a blank between all");
        ClayAccounts x = withUnits("system a:b 10 c 6 d;system e:f 60 g;");
        Object[][] rows = {{0, 1, "1 b"}, {0, 9, "9 b"}, {0, 10, "1 c"}, {0, 11, "1 c 1 b"}, {0, 59, "5 c 9 b"}, {0, 60, "1 d"},
            {0, 61, "1 d 1 b"}, {0, 69, "1 d 9 b"}, {0, 70, "1 d 1 c"}, {0, 71, "1 d 1 c 1 b"}, {0, 599, "9 d 5 c 9 b"}, {0, 600, "10 d"},
            {0, 5999, "99 d 5 c 9 b"}, {1, 9, "9 f"}, {1, 10, "10 f"}, {1, 59, "59 f"}, {1, 60, "1 g"}, {1, 70, "1 g 10 f"}};
        for (Object[] row : rows) {
            String text = (String) row[2];
            due("write " + row[1], x.write((Integer) row[0], (Integer) row[1]), text.length());
            dueOut(x, text);
        }
        // The longest one: every UNIT, two digits and eight letters each.
        ClayAccounts y = withUnits("system a:aaaaaaaa 60 bbbbbbbb 60 cccccccc 60 dddddddd 60 eeeeeeee;");
        due("the longest", y.write(0, 1295999999), 59);
        dueOut(y, "99 eeeeeeee 59 dddddddd 59 cccccccc 59 bbbbbbbb 59 aaaaaaaa");
        due("one UNIT of it", y.write(0, 12960000), 10);
        dueOut(y, "1 eeeeeeee");
    }

    private static void outStays() {
        sentence("NONE (OUT stays)");
        ClayAccounts x = withUnits("system a:b 10 c;");
        due("write", x.write(0, 25), 7);
        due("no SYSTEM", x.write(1, 25), -1);
        due("no SYSTEM", x.write(-1, 25), -1);
        due("v of 0", x.write(0, 0), -1);
        due("v too great", x.write(0, 1000), -1);
        dueOut(x, "2 c 5 b");
        systems(x, "system d:e;");
        dueOut(x, "2 c 5 b");
        due("v too great for the new SYSTEM", x.write(0, 100), -1);
        dueOut(x, "2 c 5 b");
        due("write with the new SYSTEM", x.write(0, 99), 4);
        dueOut(x, "99 e");
    }

    private static void bytesOfOut() {
        sentence("Byte k of OUT. NoSuchElementException: there is none such.");
        ClayAccounts x = withUnits("system a:b 10 c;");
        for (int k : new int[] {LEAST, -1, 0, 1, GREATEST}) {
            due("octet(" + k + ") of an empty OUT", orThrows(() -> x.octet(k)), THROWS);
        }
        due("write", x.write(0, 999), 8);
        int[] places = {LEAST, -2, -1, 0, 1, 6, 7, 8, 9, 58, 59, 60, GREATEST};
        int[] wants = {THROWS, THROWS, THROWS, '9', '9', ' ', 'b', THROWS, THROWS, THROWS, THROWS, THROWS, THROWS};
        for (int i = 0; i < places.length; i++) {
            int k = places[i];
            due("octet(" + k + ")", orThrows(() -> x.octet(k)), wants[i]);
        }
        due("a shorter one", x.write(0, 1), 3);
        int[] shorter = {'1', ' ', 'b', THROWS, THROWS, THROWS, THROWS, THROWS};
        for (int i = 0; i < 8; i++) {
            int k = i;
            due("octet(" + k + ") of the shorter one", orThrows(() -> x.octet(k)), shorter[k]);
        }
    }
}
