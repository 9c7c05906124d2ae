import java.util.NoSuchElementException;
import java.util.Random;

/** The boundaries that the document names of the tape, of calls that throw, and of how many calls there are. */
public final class CallBoundaryTests extends Check {
    private static final int[] EXTREMES = {LEAST, LEAST + 1, -400, -2, -1, 0, 1, 2, 3, 4, 5, 6, 7, 8, 11, 12, 13, 59, 60,
        99999999, 100000000, GREATEST - 1, GREATEST};

    public static void main(String[] args) {
        newObject();
        howMuchIsFed();
        orderOfBytes();
        whereTheTapeEnds();
        tapeIsTaken();
        whatIsCounted();
        throwsChangeNothing();
        anyArguments();
        howManyCalls();
        dearCalls();
        finish("CallBoundaryTests");
    }

    private static void newObject() {
        sentence("No SYSTEMS, TABLETS, FRAGMENTS, MATCH; an empty tape, OUT.");
        due("NONE", ClayAccounts.NONE, -1);
        ClayAccounts used = withUnits(UNITS);
        tablet(used, "1 gur;");
        fragment(used, "1", 0, 1);
        fragment(used, "gur;", 99999998, 0);
        used.match();
        used.write(0, 1);
        used.feed(1, 2, 3, 4, 5);
        ClayAccounts x = new ClayAccounts();
        for (int what = 0; what <= 5; what++) {
            due("count(" + what + ")", x.count(what), 0);
            due("count(" + what + ") of the other one", used.count(what), new int[] {2, 1, 2, 1, 20, 6}[what]);
        }
        due("fault", x.fault(), 0);
        due("lines", x.lines(0), -1);
        due("rows", x.rows(0), -1);
        due("matched", x.matched(0), -1);
        due("match", x.match(), 0);
        due("end(0)", x.end(0), true);
        due("end(1)", x.end(1), false);
        due("octet", orThrows(() -> x.octet(0)), THROWS);
        due("systems of an empty tape", x.systems(), -1);
        due("a FRAGMENT of an empty tape", x.fragment(0, 0), 0);
    }

    private static void howMuchIsFed() {
        sentence("how many it has; NONE, and none come, if it would have more than 440");
        ClayAccounts x = new ClayAccounts();
        for (int n = 1; n <= 22; n++) {
            due("feed " + n, x.feed(0, 0, 0, 0, 0), 20 * n);
            due("the tape", x.count(4), 20 * n);
        }
        due("feed 23", x.feed(0, 0, 0, 0, 0), -1);
        due("the tape", x.count(4), 440);
        for (int size : new int[] {418, 419, 420}) {
            due("end", x.end(size), true);
            due("feed onto " + size, x.feed(0, 0, 0, 0, 0), size + 20);
            due("the tape", x.count(4), size + 20);
            x.end(0);
            for (int n = 0; n < 22; n++) {
                x.feed(0, 0, 0, 0, 0);
            }
        }
        for (int size : new int[] {440, 439, 438, 422, 421}) {
            due("end", x.end(size), true);
            due("feed onto " + size, x.feed(-1, -1, -1, -1, -1), -1);
            due("the tape", x.count(4), size);
        }
        // What was refused did not come: the bytes behind the cut are those of the next feed.
        ClayAccounts y = new ClayAccounts();
        for (int n = 0; n < 22; n++) {
            y.feed(0x20202020, 0x20202020, 0x20202020, 0x20202020, 0x20202020);
        }
        due("a refused feed", y.feed(0x2f2f2f2f, 0x2f2f2f2f, 0x2f2f2f2f, 0x2f2f2f2f, 0x2f2f2f2f), -1);
        due("end", y.end(200), true);
        due("fragment", y.fragment(0, 0), 0);
        due("its ROWS", y.rows(0), 1);
    }

    private static void orderOfBytes() {
        sentence("Twenty bytes come behind the tape, of each number the highest first");
        // One byte that is no TOKEN in the midst of blanks: its place is the FAULT's.
        for (int ahead = 0; ahead <= 20; ahead += 4) {
            for (int place = 0; place < 20; place++) {
                int[] n = new int[5];
                for (int i = 0; i < 20; i++) {
                    n[i / 4] = n[i / 4] << 8 | (i == place ? 0xff : 0x20);
                }
                ClayAccounts x = new ClayAccounts();
                x.feed(0x20202020, 0x20202020, 0x20202020, 0x20202020, 0x20202020);
                x.end(ahead);
                due("feed", x.feed(n[0], n[1], n[2], n[3], n[4]), ahead + 20);
                due("the place of a byte", x.systems(), -1 - ahead - place);
            }
        }
        // Every byte is what it was: the one / of 256.
        for (int octet = 0; octet < 256; octet++) {
            ClayAccounts x = new ClayAccounts();
            x.feed(octet << 24 | octet << 16 | octet << 8 | octet, 0, 0, 0, octet);
            x.fragment(0, 0);
            due("ROWS with byte " + octet, x.rows(0), octet == '/' ? 6 : 1);
        }
        ClayAccounts x = new ClayAccounts();
        x.feed(0x73797374, 0x656d2061, 0x3a622039, 0x20633b0a, 0x0a202020);
        due("systems", x.systems(), 1);
        due("the FACTOR", x.system(0, 1), 9);
    }

    private static void whereTheTapeEnds() {
        sentence("The tape has its first n bytes alone: true; false, if it has not so many, or n is below 0.");
        for (int feeds : new int[] {0, 1, 21, 22}) {
            int size = 20 * feeds;
            for (int n : new int[] {LEAST, -2, -1, 0, 1, size - 1, size, size + 1, 441, GREATEST}) {
                ClayAccounts x = new ClayAccounts();
                for (int i = 0; i < feeds; i++) {
                    x.feed(0, 0, 0, 0, 0);
                }
                boolean good = n >= 0 && n <= size;
                due("end(" + n + ") of " + size, x.end(n), good);
                due("the tape", x.count(4), good ? n : size);
                due("the same end once more", x.end(n), good);
                due("one byte more", x.end(x.count(4) + 1), false);
            }
        }
        // The first bytes are those that stay.
        ClayAccounts x = new ClayAccounts();
        x.feed(0x2f2f2f2f, 0x20202020, 0x2f2f2f2f, 0x2f2f2f2f, 0x2f2f2f2f);
        due("end(8)", x.end(8), true);
        due("fragment", x.fragment(0, 0), 0);
        due("its ROWS", x.rows(0), 5);
        x.feed(0x2f2f2f2f, 0x20202020, 0x2f2f2f2f, 0x2f2f2f2f, 0x2f2f2f2f);
        due("end(4)", x.end(4), true);
        due("end(8) then", x.end(8), false);
        due("feed behind the cut", x.feed(0x20202020, 0x20202020, 0x20202020, 0x20202020, 0x2020202f), 24);
        due("fragment", x.fragment(0, 0), 1);
        due("its ROWS", x.rows(1), 6);
    }

    private static void tapeIsTaken() {
        sentence("The tape (empty then, here and below)");
        ClayAccounts x = new ClayAccounts();
        String[] calls = {"tablet", "systems x", "systems", "tablet x", "tablet", "fragment", "fragment x"};
        int[] wants = {-400, -1, 1, -1, 0, 0, -1};
        for (int i = 0; i < calls.length; i++) {
            boolean bad = calls[i].endsWith("x");
            put(x, bad ? "/" : calls[i].startsWith("systems") ? "system a:b;" : "1 b;");
            due("the tape ahead", x.count(4) > 0, true);
            int got = calls[i].startsWith("systems") ? x.systems() : calls[i].startsWith("tablet") ? x.tablet() : x.fragment(bad ? -1 : 0, 0);
            due(calls[i], got, wants[i]);
            due("the tape behind " + calls[i], x.count(4), 0);
            due("end(1) behind " + calls[i], x.end(1), false);
        }
        // No other call takes it.
        put(x, "2 b;");
        state(x);
        x.match();
        x.write(0, 7);
        x.fault();
        due("the tape", x.count(4), 4);
        due("tablet", x.tablet(), 1);
        due("its VALUE", x.line(1, 0, 3), 2);
    }

    private static void whatIsCounted() {
        sentence("0 SYSTEMS, 1 TABLETS, 2 FRAGMENTS, 3 SURE pairs of the MATCH, 4 bytes of the tape, 5 of OUT. NONE for another what.");
        ClayAccounts x = withUnits("system a:aaaaaaaa 60 bbbbbbbb 60 cccccccc 60 dddddddd 60 eeeeeeee;system b:u;system c:v;");
        for (int t = 0; t < 8; t++) {
            tablet(x, "1 u;");
        }
        for (int f = 0; f < 12; f++) {
            fragment(x, "1 v;", 5, 99999994);
        }
        x.match();
        x.write(0, 1295999999);
        for (int n = 0; n < 22; n++) {
            x.feed(0, 0, 0, 0, 0);
        }
        // As much of each as there may be.
        int[] wants = {3, 8, 12, 6, 440, 59};
        for (int what : EXTREMES) {
            due("count(" + what + ") of a full object", x.count(what), what >= 0 && what <= 5 ? wants[what] : -1);
            due("count(" + what + ") of a new object", new ClayAccounts().count(what), what >= 0 && what <= 5 ? 0 : -1);
        }
    }

    private static void throwsChangeNothing() {
        sentence("A call that throws changes nothing.");
        ClayAccounts x = withUnits("system a:b 9 c;");
        tablet(x, "? b;1 c;total 1 c ? b;");
        tablet(x, "0 b;");
        fragment(x, "1 c", 0, 1);
        fragment(x, ";", 99999998, 0);
        x.match();
        x.write(0, 11);
        put(x, "? c;total 8 c;");
        String before = state(x);
        due("system", orThrows(() -> x.system(1, 0)), THROWS);
        due("system", orThrows(() -> x.system(0, 5)), THROWS);
        due("octet", orThrows(() -> x.octet(7)), THROWS);
        due("octet", orThrows(() -> x.octet(-1)), THROWS);
        due("line", orThrows(() -> x.line(1, 0, 0)), THROWS);
        due("line", orThrows(() -> x.line(0, 3, 0)), THROWS);
        due("line", orThrows(() -> x.line(0, 0, 4)), THROWS);
        due("bound", orThrows(() -> x.bound(0, 3, true)), THROWS);
        due("bound", orThrows(() -> x.bound(1, 0, false)), THROWS);
        due("digit", orThrows(() -> x.digit(0, 2)), THROWS);
        due("digit", orThrows(() -> x.digit(1, 0)), THROWS);
        due("what is there", state(x), before);
        due("fault", x.fault(), 2);
        due("the tape", x.count(4), 14);
        due("tablet", x.tablet(), 1);
        due("its READINGS", x.readings(1), 1);
        due("its digit", x.digit(1, 0), 8);
    }

    /** Any numbers in any state: an answer, or the exception that the document names, where it names one. */
    private static void anyArguments() {
        sentence("throws NoSuchElementException");
        Random random = new Random(7);
        String[] texts = {UNITS, "system a:b;", "? gur;? gur;total ? gur;", "1 gur;", "1", "gur;", "x", "", "?? gur;?? gur;", "//", "1/2"};
        for (int run = 0; run < 300; run++) {
            ClayAccounts x = new ClayAccounts();
            for (int n = 0; n < 400; n++) {
                if (random.nextInt(4) == 0) {
                    x.end(0);
                    put(x, texts[random.nextInt(texts.length)]);
                }
                int a = EXTREMES[random.nextInt(EXTREMES.length)];
                int b = EXTREMES[random.nextInt(EXTREMES.length)];
                int c = EXTREMES[random.nextInt(EXTREMES.length)];
                int call = random.nextInt(20);
                boolean mayThrow = call == 4 || call == 6 || call == 8 || call == 11 || call == 12;
                due("call " + call + " with " + a + ", " + b + ", " + c, endsAsTold(x, call, new int[] {a, b, c}, mayThrow), true);
            }
        }
    }

    private static boolean endsAsTold(ClayAccounts x, int call, int[] n, boolean mayThrow) {
        try {
            ask(x, call, n[0], n[1], n[2]);
            return true;
        } catch (NoSuchElementException e) {
            return mayThrow;
        } catch (RuntimeException e) {
            return false;
        }
    }

    private static int ask(ClayAccounts x, int call, int a, int b, int c) {
        switch (call) {
            case 0:
                return x.feed(a, b, c, a, b);
            case 1:
                return x.end(a) ? 1 : 0;
            case 2:
                return x.systems();
            case 3:
                return x.fault();
            case 4:
                return x.system(a, b);
            case 5:
                return x.write(a, b);
            case 6:
                return x.octet(a);
            case 7:
                return x.tablet();
            case 8:
                return x.line(a, b, c);
            case 9:
                return x.lines(a);
            case 10:
                return x.readings(a);
            case 11:
                return x.bound(a, b, c > 0);
            case 12:
                return x.digit(a, b);
            case 13:
                return x.wrong(a);
            case 14:
                return x.fragment(a, b);
            case 15:
                return x.rows(a);
            case 16:
                return x.join(a, b);
            case 17:
                return x.match();
            case 18:
                return x.matched(a);
            default:
                return x.count(a);
        }
    }

    private static void howManyCalls() {
        sentence("An object is used for at most 512 calls after it has been made; what later calls answer is free.");
        ClayAccounts x = new ClayAccounts();
        int calls = 0;
        // Sixteen calls a turn, 32 turns: the calls 511 and 512 answer as the first ones did.
        for (int turn = 0; turn < 32; turn++) {
            due("feed", x.feed(0x73797374, 0x656d2061, 0x3a622039, 0x20633b0a, 0x0a202020), 20);
            due("systems", x.systems(), 1);
            due("feed", x.feed(0x3f20623b, 0x746f7461, 0x6c203720, 0x623b2020, 0x20202020), 20);
            due("end", x.end(18), true);
            due("tablet", x.tablet(), 0);
            due("readings", x.readings(0), 1);
            due("digit", x.digit(0, 0), 7);
            due("bound", x.bound(0, 1, true), 7);
            due("wrong", x.wrong(0), 0);
            due("line", x.line(0, 1, 3), 7);
            due("write", x.write(0, 70), 7);
            due("octet", x.octet(6), 'b');
            due("count", x.count(5), 7);
            due("feed", x.feed(0x3f20623b, 0x746f7461, 0x6c203720, 0x623b2020, 0x20202020), 20);
            due("fragment", x.fragment(5, 99999994), turn < 12 ? turn : -1);
            due("match", x.match(), Math.min(turn + 1, 12) / 2);
            calls += 16;
        }
        due("calls", calls, 512);
        due("a call behind them ends", x.count(0) >= LEAST, true);
    }

    /** Twelve FRAGMENTS, each of which has a hard account with each other one; all calls are spent on them. */
    private static void dearCalls() {
        sentence("An object is used for at most 512 calls");
        ClayAccounts x = withUnits(UNITS);
        int calls = 8;
        for (int f = 0; f < 12; f++) {
            due("fragment", fragment(x, "1? gur ? sila;total 99 gur;", 5, 99999994), f);
            calls += 5;
        }
        // New SYSTEMS, so that no MATCH can go by what was found for another one.
        while (calls + 9 <= 510) {
            due("match", x.match(), 6);
            due("systems", systems(x, UNITS), 2);
            calls += 9;
        }
        due("match", x.match(), 6);
        due("SURE pairs", x.count(3), 0);
        ClayAccounts y = withUnits(UNITS);
        for (int n = 0; n < 40; n++) {
            due("a hard TABLET", tablet(y, "?? gur ? ban;? gur 1 sila;" + "total 60 gur;grand 61 gur;".repeat(4)), n % 8);
            due("its READINGS", y.readings(n % 8), 0);
            if (n % 8 == 7) {
                systems(y, UNITS);
            }
        }
    }
}
