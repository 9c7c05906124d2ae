import java.util.Arrays;
import java.util.NoSuchElementException;

/** A reader of clay accounts: SYSTEMS of units, TABLETS with broken signs, FRAGMENTS that are joined. */
public final class ClayAccounts {
    public static final int NONE = -1;

    private static final int FED_AT_ONCE = 20;
    private static final int MOST_TAPE = 440;
    private static final int MOST_SYSTEMS_TEXT = 400;
    private static final int MOST_TABLET_TEXT = 300;
    private static final int MOST_FRAGMENT_TEXT = 200;
    // Two FRAGMENTS lose a / for each two blanks that they get, but for the last ROW.
    private static final int MOST_SAID = 2 * MOST_FRAGMENT_TEXT + 2;
    // Five UNITS of two digits, a blank, eight letters, with blanks between them.
    private static final int MOST_OUT = 59;

    private static final int MOST_SYSTEMS = 3;
    private static final int MOST_UNITS = 5;
    private static final int LEAST_FACTOR = 2;
    private static final int MOST_FACTOR = 60;
    private static final int MOST_COUNT = 99;
    private static final int MOST_TABLETS = 8;
    private static final int MOST_LINES = 12;
    private static final int MOST_HOLES = 4;
    private static final int MOST_FRAGMENTS = 12;
    private static final int MOST_EDGE = 99999999;

    private static final int ENTRY = 0;
    private static final int TOTAL = 1;
    private static final int GRAND = 2;

    private static final int NO_FAULT = 0;
    private static final int CANNOT_COME = 1;
    private static final int BAD_NUMBER = 2;
    private static final int BAD_NAME = 3;
    private static final int TOO_MANY = 4;

    private static final int NO_ROOM = -400;

    private static final int UNKNOWN = -1;
    private static final int APART = 0;
    private static final int FITTING = 1;
    private static final int SURE = 2;

    private final Text tape = new Text(MOST_TAPE);
    private final Text out = new Text(MOST_OUT);
    private final Text said = new Text(MOST_SAID);
    private final UnitsReader unitsReader = new UnitsReader();
    private final TabletReader tabletReader = new TabletReader();
    private final Solver solver = new Solver();
    private final Matcher matcher = new Matcher();
    private final Tablet[] tablets = new Tablet[MOST_TABLETS];
    private final Tablet joinedTablet = new Tablet();
    private final Fragment[] fragments = new Fragment[MOST_FRAGMENTS];
    // A join is asked for again by every match(), and its answer changes with the SYSTEMS alone.
    private final int[] joins = new int[MOST_FRAGMENTS * MOST_FRAGMENTS];
    private Units units = new Units();
    private Units spareUnits = new Units();
    private int tabletCount;
    private int fragmentCount;
    private int faultKind;

    public ClayAccounts() {
        for (int t = 0; t < MOST_TABLETS; t++) {
            tablets[t] = new Tablet();
        }
        for (int f = 0; f < MOST_FRAGMENTS; f++) {
            fragments[f] = new Fragment();
        }
        Arrays.fill(joins, UNKNOWN);
        tabletCount = 0;
        fragmentCount = 0;
        faultKind = NO_FAULT;
    }

    public int feed(int a, int b, int c, int d, int e) {
        if (tape.size + FED_AT_ONCE > MOST_TAPE) {
            return NONE;
        }
        tape.putFour(a);
        tape.putFour(b);
        tape.putFour(c);
        tape.putFour(d);
        tape.putFour(e);
        return tape.size;
    }

    public boolean end(int n) {
        if (n < 0 || n > tape.size) {
            return false;
        }
        tape.size = n;
        return true;
    }

    public int systems() {
        boolean good = unitsReader.read(tape, spareUnits);
        tape.clear();
        faultKind = unitsReader.tokens.fault;
        if (!good) {
            return -1 - unitsReader.tokens.faultPlace;
        }
        Units old = units;
        units = spareUnits;
        spareUnits = old;
        tabletCount = 0;
        matcher.forget();
        Arrays.fill(joins, UNKNOWN);
        return units.systemCount;
    }

    public int fault() {
        return faultKind;
    }

    public int system(int s, int what) throws NoSuchElementException {
        if (!isSystem(s) || what < 0 || what >= MOST_UNITS) {
            throw new NoSuchElementException("no such SYSTEM, or no such question");
        }
        if (what == 0) {
            return units.unitCounts[s];
        }
        return what < units.unitCounts[s] ? units.factors[Units.slot(s, what)] : NONE;
    }

    public int write(int s, int v) {
        if (!isSystem(s) || v < 1 || !units.canWrite(s, v)) {
            return NONE;
        }
        out.clear();
        units.writeTo(out, s, v);
        return out.size;
    }

    public int octet(int k) throws NoSuchElementException {
        if (k < 0 || k >= out.size) {
            throw new NoSuchElementException("OUT has no such byte");
        }
        return out.byteAt(k);
    }

    public int tablet() {
        boolean room = tabletCount < MOST_TABLETS && units.systemCount > 0;
        boolean good = room && tabletReader.read(tape, units, tablets[tabletCount]);
        tape.clear();
        if (!room) {
            return NO_ROOM;
        }
        faultKind = tabletReader.tokens.fault;
        if (!good) {
            return -1 - tabletReader.tokens.faultPlace;
        }
        tabletCount++;
        return tabletCount - 1;
    }

    public int line(int t, int k, int what) throws NoSuchElementException {
        if (!isLine(t, k) || what < 0 || what > 3) {
            throw new NoSuchElementException("no such LINE, or no such question");
        }
        Line asked = tablets[t].lines[k];
        switch (what) {
            case 0:
                return asked.kind;
            case 1:
                return asked.system;
            case 2:
                return asked.holeCount;
            default:
                return asked.holeCount == 0 ? asked.value : NONE;
        }
    }

    public int lines(int t) {
        return isTablet(t) ? tablets[t].lineCount : NONE;
    }

    public int readings(int t) {
        return isTablet(t) ? solved(t).readingCount : NONE;
    }

    public int bound(int t, int k, boolean greatest) throws NoSuchElementException {
        if (!isLine(t, k)) {
            throw new NoSuchElementException("no such LINE");
        }
        Tablet asked = solved(t);
        return asked.readingCount == 0 ? NONE : asked.lines[k].valueBound(greatest);
    }

    public int digit(int t, int q) throws NoSuchElementException {
        if (!isTablet(t) || q < 0 || q >= tablets[t].holeCount) {
            throw new NoSuchElementException("no such ?");
        }
        Tablet asked = solved(t);
        return asked.readingCount == 0 ? NONE : asked.holes[q].sureDigit;
    }

    public int wrong(int t) {
        return isTablet(t) ? solved(t).fewestWrong : NONE;
    }

    public int fragment(int left, int right) {
        boolean good = fragmentCount < MOST_FRAGMENTS && isEdge(left) && isEdge(right)
                && tape.size <= MOST_FRAGMENT_TEXT;
        if (good) {
            fragments[fragmentCount].take(tape, left, right);
            fragmentCount++;
        }
        tape.clear();
        return good ? fragmentCount - 1 : NONE;
    }

    public int rows(int f) {
        return isFragment(f) ? fragments[f].rowCount : NONE;
    }

    public int join(int f, int g) {
        if (!isFragment(f) || !isFragment(g) || f == g) {
            return NONE;
        }
        return joined(f, g);
    }

    public int match() {
        for (int f = 0; f < fragmentCount; f++) {
            for (int g = f + 1; g < fragmentCount; g++) {
                matcher.tell(f, g, Math.max(joined(f, g), joined(g, f)));
            }
        }
        matcher.pairUp(fragmentCount);
        return matcher.pairCount;
    }

    public int matched(int f) {
        return isFragment(f) ? matcher.partners[f] : NONE;
    }

    public int count(int what) {
        switch (what) {
            case 0:
                return units.systemCount;
            case 1:
                return tabletCount;
            case 2:
                return fragmentCount;
            case 3:
                return matcher.sureCount;
            case 4:
                return tape.size;
            case 5:
                return out.size;
            default:
                return NONE;
        }
    }

    private boolean isSystem(int s) {
        return s >= 0 && s < units.systemCount;
    }

    private boolean isTablet(int t) {
        return t >= 0 && t < tabletCount;
    }

    private boolean isLine(int t, int k) {
        return isTablet(t) && k >= 0 && k < tablets[t].lineCount;
    }

    private boolean isFragment(int f) {
        return f >= 0 && f < fragmentCount;
    }

    private static boolean isEdge(int edge) {
        return edge >= 0 && edge <= MOST_EDGE;
    }

    // Many TABLETS are never asked for READINGS, so these are sought at the first question.
    private Tablet solved(int t) {
        Tablet asked = tablets[t];
        if (!asked.isSolved) {
            solver.solve(asked, false);
            asked.isSolved = true;
        }
        return asked;
    }

    private int joined(int f, int g) {
        int slot = f * MOST_FRAGMENTS + g;
        if (joins[slot] == UNKNOWN && !fragments[f].goesLeftOf(fragments[g])) {
            joins[slot] = APART;
        }
        if (joins[slot] == UNKNOWN) {
            fragments[f].sayWith(fragments[g], said);
            boolean good = tabletReader.read(said, units, joinedTablet);
            if (good) {
                solver.solve(joinedTablet, true);
            }
            joins[slot] = good && joinedTablet.readingCount > 0 ? SURE : FITTING;
        }
        return joins[slot];
    }

    /** Bytes in a row of fixed room. */
    private static final class Text {
        final byte[] bytes;
        int size;

        Text(int room) {
            bytes = new byte[Math.max(0, room)];
            size = 0;
        }

        void clear() {
            size = 0;
        }

        void put(int octet) {
            if (size < bytes.length) {
                bytes[size] = (byte) octet;
                size++;
            }
        }

        void putFour(int number) {
            put(number >>> 24);
            put(number >>> 16);
            put(number >>> 8);
            put(number);
        }

        int byteAt(int place) {
            return place >= 0 && place < size ? bytes[place] & 255 : NONE;
        }
    }

    /** The TOKENS of a text one by one, and the FAULT that stopped its reading. */
    private static final class Tokens {
        static final int END = 0;
        static final int NO_TOKEN = 1;
        static final int NAME = 2;
        static final int NUMBER = 3;
        static final int COLON = 4;
        static final int SEMICOLON = 5;
        static final int SYSTEM_WORD = 6;
        static final int TOTAL_WORD = 7;
        static final int GRAND_WORD = 8;

        static final int NO_DIGIT = -1;
        static final int BROKEN = 10;

        // A NAME is held as one number, a byte for each letter: these are the letters of the three words.
        private static final long SYSTEM_LETTERS = 0x73797374656dL;
        private static final long TOTAL_LETTERS = 0x746f74616cL;
        private static final long GRAND_LETTERS = 0x6772616e64L;
        private static final int MOST_LETTERS = 8;
        private static final int MOST_DIGITS = 2;

        int kind;
        int place;
        long name;
        int tens;
        int ones;
        int fault;
        int faultPlace;
        private Text text = new Text(0);
        private int most;
        private boolean withBroken;
        private int at;

        void begin(Text read, int mostBytes, boolean brokenDigits) {
            text = read;
            most = mostBytes;
            withBroken = brokenDigits;
            at = 0;
            fault = NO_FAULT;
            faultPlace = 0;
        }

        /** Notes a FAULT; always false, so that a reader can stop with it. */
        boolean refuse(int kindOfFault, int faultAt) {
            fault = kindOfFault;
            faultPlace = faultAt;
            return false;
        }

        /** Whether the TOKEN is of this kind; if not, that is its FAULT. */
        boolean demand(int wanted) {
            if (kind != wanted) {
                fault = CANNOT_COME;
                faultPlace = place;
            }
            return kind == wanted;
        }

        /** Whether the text may END here: it is not too long, and has a part at least. */
        boolean endsWell(int parts) {
            return parts > 0 && text.size <= most || refuse(CANNOT_COME, place);
        }

        void advance() {
            int stop = Math.min(text.size, most);
            while (at < stop && isBlank(text.byteAt(at))) {
                at++;
            }
            if (at >= stop) {
                kind = END;
                place = stop;
                return;
            }
            place = at;
            int first = text.byteAt(at);
            if (isSmallLetter(first)) {
                takeName();
            } else if (isDigit(first)) {
                takeNumber();
            } else {
                takeSign(first);
            }
        }

        int number() {
            return tens == NO_DIGIT ? ones : 10 * tens + ones;
        }

        private void takeName() {
            boolean good = true;
            name = 0;
            int letter = text.byteAt(at);
            while (at < text.size && (isSmallLetter(letter) || letter >= '0' && letter <= '9')) {
                good = good && isSmallLetter(letter);
                name = name << 8 | letter;
                at++;
                letter = text.byteAt(at);
            }
            kind = good && at - place <= MOST_LETTERS ? kindOfName() : NO_TOKEN;
        }

        private int kindOfName() {
            if (name == SYSTEM_LETTERS) {
                return SYSTEM_WORD;
            }
            if (name == TOTAL_LETTERS) {
                return TOTAL_WORD;
            }
            return name == GRAND_LETTERS ? GRAND_WORD : NAME;
        }

        private void takeNumber() {
            boolean good = true;
            tens = NO_DIGIT;
            ones = NO_DIGIT;
            int sign = text.byteAt(at);
            while (at < text.size && (isDigit(sign) || isSmallLetter(sign))) {
                good = good && isDigit(sign);
                tens = ones;
                ones = sign == '?' ? BROKEN : sign - '0';
                at++;
                sign = text.byteAt(at);
            }
            kind = good && at - place <= MOST_DIGITS ? NUMBER : NO_TOKEN;
        }

        private void takeSign(int sign) {
            at++;
            if (sign == ':') {
                kind = COLON;
            } else {
                kind = sign == ';' ? SEMICOLON : NO_TOKEN;
            }
        }

        private boolean isDigit(int sign) {
            return sign >= '0' && sign <= '9' || withBroken && sign == '?';
        }

        private static boolean isSmallLetter(int sign) {
            return sign >= 'a' && sign <= 'z';
        }

        private static boolean isBlank(int sign) {
            return sign == ' ' || sign == '\n';
        }
    }

    /** SYSTEMS with their UNITS; a UNIT is known by its slot. */
    private static final class Units {
        private static final int SLOTS = MOST_SYSTEMS * MOST_UNITS;
        // No NAME is held as this.
        private static final long NO_NAME = 0;

        final long[] systemNames = new long[MOST_SYSTEMS];
        final int[] unitCounts = new int[MOST_SYSTEMS];
        final long[] names = new long[SLOTS];
        final int[] factors = new int[SLOTS];
        final int[] worths = new int[SLOTS];
        final int[] mosts = new int[SLOTS];
        int systemCount;

        static int slot(int system, int unit) {
            return system * MOST_UNITS + unit;
        }

        static int systemOf(int slot) {
            return slot / MOST_UNITS;
        }

        void clear() {
            systemCount = 0;
            Arrays.fill(systemNames, NO_NAME);
            Arrays.fill(unitCounts, 0);
            Arrays.fill(names, NO_NAME);
        }

        void addSystem(long name) {
            if (systemCount < MOST_SYSTEMS) {
                systemNames[systemCount] = name;
                systemCount++;
            }
        }

        /** Whether the latest SYSTEM has as many UNITS as may be. */
        boolean isFull() {
            return systemCount < 1 || unitCounts[systemCount - 1] >= MOST_UNITS;
        }

        /** One UNIT more of the latest SYSTEM. */
        void addUnit(long name, int factor) {
            if (isFull()) {
                return;
            }
            int system = systemCount - 1;
            int added = slot(system, unitCounts[system]);
            names[added] = name;
            factors[added] = factor;
            worths[added] = 1;
            mosts[added] = MOST_COUNT;
            if (unitCounts[system] > 0) {
                worths[added] = factor * worths[added - 1];
                mosts[added - 1] = factor - 1;
            }
            unitCounts[system]++;
        }

        int find(long name) {
            for (int slot = 0; slot < SLOTS; slot++) {
                if (names[slot] == name) {
                    return slot;
                }
            }
            return NONE;
        }

        boolean isTaken(long name) {
            for (int s = 0; s < MOST_SYSTEMS; s++) {
                if (systemNames[s] == name) {
                    return true;
                }
            }
            return find(name) != NONE;
        }

        boolean canWrite(int system, int value) {
            int unit = unitCounts[system] - 1;
            int worth = unit >= 0 ? worths[slot(system, unit)] : 0;
            return worth > 0 && value / worth <= MOST_COUNT;
        }

        void writeTo(Text out, int system, int value) {
            int rest = value;
            for (int u = unitCounts[system] - 1; u >= 0; u--) {
                int slot = slot(system, u);
                int worth = worths[slot];
                int times = worth > 0 ? rest / worth : 0;
                rest -= times * worth;
                if (times > 0) {
                    writeAmount(out, times, names[slot]);
                }
            }
        }

        private static void writeAmount(Text out, int times, long name) {
            if (out.size > 0) {
                out.put(' ');
            }
            if (times >= 10) {
                out.put('0' + times / 10);
            }
            out.put('0' + times % 10);
            out.put(' ');
            for (int shift = 56; shift >= 0; shift -= 8) {
                int letter = (int) (name >>> shift) & 255;
                if (letter != 0) {
                    out.put(letter);
                }
            }
        }
    }

    /** Reads the text of SYSTEMS, TOKEN by TOKEN. */
    private static final class UnitsReader {
        private static final int AT_SYSTEM = 0;
        private static final int AT_SYSTEM_NAME = 1;
        private static final int AT_COLON = 2;
        private static final int AT_UNIT = 3;
        private static final int BEHIND_UNIT = 4;

        final Tokens tokens = new Tokens();
        private int state;
        private int factor;

        boolean read(Text text, Units into) {
            into.clear();
            tokens.begin(text, MOST_SYSTEMS_TEXT, false);
            state = AT_SYSTEM;
            // A TOKEN has a byte at least, so the END comes within these turns.
            for (int n = 0; n <= MOST_SYSTEMS_TEXT; n++) {
                tokens.advance();
                if (state == AT_SYSTEM && tokens.kind == Tokens.END) {
                    return tokens.endsWell(into.systemCount);
                }
                if (!takeToken(into)) {
                    return false;
                }
            }
            return false;
        }

        private boolean takeToken(Units into) {
            switch (state) {
                case AT_SYSTEM:
                    return beginSystem(into);
                case AT_SYSTEM_NAME:
                    return takeSystemName(into);
                case AT_COLON:
                    factor = 1;
                    state = AT_UNIT;
                    return tokens.demand(Tokens.COLON);
                case AT_UNIT:
                    return takeUnitName(into);
                default:
                    return tokens.kind == Tokens.NUMBER ? takeFactor(into) : endSystem();
            }
        }

        private boolean beginSystem(Units into) {
            if (!tokens.demand(Tokens.SYSTEM_WORD)) {
                return false;
            }
            state = AT_SYSTEM_NAME;
            return into.systemCount < MOST_SYSTEMS || tokens.refuse(TOO_MANY, tokens.place);
        }

        private boolean takeSystemName(Units into) {
            if (!isNewName(into)) {
                return false;
            }
            into.addSystem(tokens.name);
            state = AT_COLON;
            return true;
        }

        private boolean takeUnitName(Units into) {
            if (!isNewName(into)) {
                return false;
            }
            into.addUnit(tokens.name, factor);
            state = BEHIND_UNIT;
            return true;
        }

        private boolean isNewName(Units into) {
            if (!tokens.demand(Tokens.NAME)) {
                return false;
            }
            return !into.isTaken(tokens.name) || tokens.refuse(BAD_NAME, tokens.place);
        }

        private boolean takeFactor(Units into) {
            factor = tokens.number();
            if (factor < LEAST_FACTOR || factor > MOST_FACTOR) {
                return tokens.refuse(BAD_NUMBER, tokens.place);
            }
            state = AT_UNIT;
            // Behind this NUMBER nothing but a UNIT can come.
            return !into.isFull() || tokens.refuse(TOO_MANY, tokens.place);
        }

        private boolean endSystem() {
            state = AT_SYSTEM;
            return tokens.demand(Tokens.SEMICOLON);
        }
    }

    /** A LINE of a TABLET. */
    private static final class Line {
        int kind;
        int system;
        int holeCount;
        // Without what is broken off.
        int value;
        int least;
        int greatest;

        void begin(int kindOfLine) {
            kind = kindOfLine;
            system = NONE;
            holeCount = 0;
            value = 0;
            least = NONE;
            greatest = NONE;
        }

        void noteValue(int read) {
            least = least == NONE ? read : Math.min(least, read);
            greatest = Math.max(greatest, read);
        }

        int valueBound(boolean upper) {
            if (holeCount == 0) {
                return value;
            }
            return upper ? greatest : least;
        }
    }

    /** A ? of a TABLET. */
    private static final class Hole {
        static final int UNSEEN = -2;

        int line;
        // What one of this digit adds to its COUNT, and to the VALUE of its LINE.
        int scale;
        int weight;
        int leastDigit;
        // What the digits that are there leave of the greatest COUNT.
        int room;
        boolean isBehindHole;
        int sureDigit;

        void limit(int least, int roomOfCount, boolean behindHole) {
            leastDigit = least;
            room = roomOfCount;
            isBehindHole = behindHole;
        }

        void noteDigit(int read) {
            if (sureDigit == UNSEEN) {
                sureDigit = read;
            } else if (sureDigit != read) {
                sureDigit = NONE;
            }
        }
    }

    /** A TABLET as it was read, and what was found about its READINGS. */
    private static final class Tablet {
        final Line[] lines = new Line[MOST_LINES];
        final Hole[] holes = new Hole[MOST_HOLES];
        int lineCount;
        int holeCount;
        boolean isSolved;
        int readingCount;
        int fewestWrong;

        Tablet() {
            for (int k = 0; k < MOST_LINES; k++) {
                lines[k] = new Line();
            }
            for (int q = 0; q < MOST_HOLES; q++) {
                holes[q] = new Hole();
            }
        }

        void clear() {
            lineCount = 0;
            holeCount = 0;
            isSolved = false;
            readingCount = 0;
            fewestWrong = MOST_LINES + 1;
        }

        boolean isFull() {
            return lineCount >= MOST_LINES;
        }

        void addLine(int kind) {
            if (!isFull()) {
                lines[lineCount].begin(kind);
                lineCount++;
            }
        }

        /** What is known of an AMOUNT more of the latest LINE. */
        void addKnown(int system, int value) {
            int last = lineCount - 1;
            if (last >= 0) {
                lines[last].system = system;
                lines[last].value += value;
            }
        }

        /** The next ?, of the latest LINE; its digit counts scale of a UNIT of this worth. */
        Hole addHole(int scale, int worth) {
            Hole hole = holes[holeCount < MOST_HOLES ? holeCount : MOST_HOLES - 1];
            int last = lineCount - 1;
            if (last >= 0 && holeCount < MOST_HOLES) {
                hole.line = last;
                hole.scale = scale;
                hole.weight = scale * worth;
                hole.sureDigit = Hole.UNSEEN;
                lines[last].holeCount++;
                holeCount++;
            }
            return hole;
        }
    }

    /** Reads the text of a TABLET, TOKEN by TOKEN. */
    private static final class TabletReader {
        private static final int AT_LINE = 0;
        private static final int AT_COUNT = 1;
        private static final int AT_UNIT = 2;
        private static final int BEHIND_AMOUNT = 3;
        private static final int AT_LINE_END = 4;

        final Tokens tokens = new Tokens();
        private int state;
        private int lineKind;
        private boolean isLineTooMany;
        private int unitAhead;
        private int countPlace;
        private int tens;
        private int ones;

        boolean read(Text text, Units units, Tablet into) {
            into.clear();
            tokens.begin(text, MOST_TABLET_TEXT, true);
            state = AT_LINE;
            // A TOKEN has a byte at least, so the END comes within these turns.
            for (int n = 0; n <= MOST_TABLET_TEXT; n++) {
                tokens.advance();
                if (state == AT_LINE && tokens.kind == Tokens.END) {
                    return tokens.endsWell(into.lineCount);
                }
                if (!takeToken(units, into)) {
                    return false;
                }
            }
            return false;
        }

        private boolean takeToken(Units units, Tablet into) {
            switch (state) {
                case AT_LINE:
                    return beginLine(into);
                case AT_COUNT:
                    return takeCount();
                case AT_UNIT:
                    return takeAmount(units, into);
                case BEHIND_AMOUNT:
                    return tokens.kind == Tokens.NUMBER ? takeCount() : takeNameOrEnd(units);
                default:
                    return endLine();
            }
        }

        private boolean beginLine(Tablet into) {
            isLineTooMany = into.isFull();
            unitAhead = NONE;
            if (tokens.kind == Tokens.TOTAL_WORD || tokens.kind == Tokens.GRAND_WORD) {
                lineKind = tokens.kind == Tokens.TOTAL_WORD ? TOTAL : GRAND;
                into.addLine(lineKind);
                state = AT_COUNT;
                return !isLineTooMany || tokens.refuse(TOO_MANY, tokens.place);
            }
            lineKind = ENTRY;
            into.addLine(lineKind);
            return takeCount();
        }

        // Whether the COUNT can be as told is known with the TOKEN behind it.
        private boolean takeCount() {
            countPlace = tokens.place;
            tens = tokens.tens;
            ones = tokens.ones;
            state = AT_UNIT;
            return tokens.demand(Tokens.NUMBER);
        }

        // The FAULTS of the COUNT first: it stands ahead of the UNIT.
        private boolean takeAmount(Units units, Tablet into) {
            int unit = tokens.kind == Tokens.NAME ? units.find(tokens.name) : NONE;
            if (!canCountBe(unit == NONE ? MOST_COUNT : units.mosts[unit])) {
                return tokens.refuse(BAD_NUMBER, countPlace);
            }
            if (isLineTooMany || into.holeCount + brokenDigits() > MOST_HOLES) {
                return tokens.refuse(TOO_MANY, countPlace);
            }
            if (!tokens.demand(Tokens.NAME)) {
                return false;
            }
            if (unit == NONE || unitAhead != NONE && !isLesser(unit, unitAhead)) {
                return tokens.refuse(BAD_NAME, tokens.place);
            }
            addAmount(units, unit, into);
            unitAhead = unit;
            state = BEHIND_AMOUNT;
            return true;
        }

        private boolean canCountBe(int most) {
            if (tens == Tokens.NO_DIGIT) {
                return ones == Tokens.BROKEN || ones >= 1 && ones <= most;
            }
            int leastTens = tens == Tokens.BROKEN ? 1 : tens;
            int leastOnes = ones == Tokens.BROKEN ? 0 : ones;
            return leastTens >= 1 && 10 * leastTens + leastOnes <= most;
        }

        private int brokenDigits() {
            return (tens == Tokens.BROKEN ? 1 : 0) + (ones == Tokens.BROKEN ? 1 : 0);
        }

        private static boolean isLesser(int slot, int ahead) {
            return slot < ahead && Units.systemOf(slot) == Units.systemOf(ahead);
        }

        private void addAmount(Units units, int unit, Tablet into) {
            int worth = units.worths[unit];
            int most = units.mosts[unit];
            int knownTens = tens == Tokens.NO_DIGIT || tens == Tokens.BROKEN ? 0 : 10 * tens;
            int knownOnes = ones == Tokens.BROKEN ? 0 : ones;
            into.addKnown(Units.systemOf(unit), (knownTens + knownOnes) * worth);
            if (tens == Tokens.BROKEN) {
                into.addHole(10, worth).limit(1, most - knownOnes, false);
            }
            if (ones == Tokens.BROKEN) {
                int least = tens == Tokens.NO_DIGIT ? 1 : 0;
                into.addHole(1, worth).limit(least, most - knownTens, tens == Tokens.BROKEN);
            }
        }

        private boolean takeNameOrEnd(Units units) {
            if (lineKind != ENTRY || tokens.kind != Tokens.NAME) {
                return endLine();
            }
            state = AT_LINE_END;
            return units.find(tokens.name) == NONE || tokens.refuse(CANNOT_COME, tokens.place);
        }

        private boolean endLine() {
            state = AT_LINE;
            return tokens.demand(Tokens.SEMICOLON);
        }
    }

    /** Finds the READINGS of a TABLET, ? by ?. A SUM here is a LINE that has to COME OUT. */
    private static final class Solver {
        private int sumCount;
        // How far each SUM is off, with the first q ? filled and the others 0.
        private final long[][] off = new long[MOST_HOLES + 1][MOST_LINES];
        // How much further off it is with each one of the digit of ? q.
        private final long[][] slopes = new long[MOST_HOLES][MOST_LINES];
        // How much the ? from q on can change that, down and up.
        private final long[][] downs = new long[MOST_HOLES + 1][MOST_LINES];
        private final long[][] ups = new long[MOST_HOLES + 1][MOST_LINES];
        private final int[] digits = new int[MOST_HOLES];
        private boolean oneIsEnough;

        /** All READINGS, or one if that is enough, and the fewest LINES that do not COME OUT. */
        void solve(Tablet tablet, boolean stopAtFirst) {
            oneIsEnough = stopAtFirst;
            sumCount = 0;
            for (int k = 0; k < tablet.lineCount; k++) {
                if (tablet.lines[k].kind != ENTRY) {
                    weigh(tablet, k, sumCount);
                    measure(sumCount);
                    sumCount++;
                }
            }
            int missed = missedWith(0);
            if (isWorthwhile(tablet, missed)) {
                fill(tablet, 0, missed);
            }
        }

        private void weigh(Tablet tablet, int k, int sum) {
            off[0][sum] = 0;
            for (int q = 0; q < MOST_HOLES; q++) {
                slopes[q][sum] = 0;
            }
            Line whole = tablet.lines[k];
            addPart(tablet, k, sum, 1);
            for (int j = k - 1; j >= 0; j--) {
                Line part = tablet.lines[j];
                if (part.system == whole.system && part.kind == whole.kind - 1) {
                    addPart(tablet, j, sum, -1);
                }
                if (part.system == whole.system && part.kind == TOTAL && whole.kind == TOTAL) {
                    break;
                }
            }
        }

        private void addPart(Tablet tablet, int k, int sum, int sign) {
            off[0][sum] += (long) sign * tablet.lines[k].value;
            for (int q = 0; q < tablet.holeCount; q++) {
                if (tablet.holes[q].line == k) {
                    slopes[q][sum] = (long) sign * tablet.holes[q].weight;
                }
            }
        }

        private void measure(int sum) {
            downs[MOST_HOLES][sum] = 0;
            ups[MOST_HOLES][sum] = 0;
            for (int q = MOST_HOLES - 1; q >= 0; q--) {
                long most = 9 * slopes[q][sum];
                downs[q][sum] = downs[q + 1][sum] + Math.min(0, most);
                ups[q][sum] = ups[q + 1][sum] + Math.max(0, most);
            }
        }

        /** How many LINES can't COME OUT any more, with the first q ? filled. */
        private int missedWith(int q) {
            int missed = 0;
            for (int sum = 0; sum < sumCount; sum++) {
                long now = off[q][sum];
                if (now + downs[q][sum] > 0 || now + ups[q][sum] < 0) {
                    missed++;
                }
            }
            return missed;
        }

        private boolean isWorthwhile(Tablet tablet, int missed) {
            if (oneIsEnough) {
                return missed == 0 && tablet.readingCount == 0;
            }
            return missed == 0 || missed < tablet.fewestWrong;
        }

        private void fill(Tablet tablet, int q, int missed) {
            if (q >= tablet.holeCount || q >= MOST_HOLES) {
                tablet.fewestWrong = Math.min(tablet.fewestWrong, missed);
                if (missed == 0) {
                    noteReading(tablet);
                }
                return;
            }
            Hole hole = tablet.holes[q];
            int room = hole.isBehindHole && q > 0 ? hole.room - 10 * digits[q - 1] : hole.room;
            for (int d = hole.leastDigit; d <= 9 && d * hole.scale <= room; d++) {
                digits[q] = d;
                for (int sum = 0; sum < sumCount; sum++) {
                    off[q + 1][sum] = off[q][sum] + d * slopes[q][sum];
                }
                int missedNow = missedWith(q + 1);
                if (isWorthwhile(tablet, missedNow)) {
                    fill(tablet, q + 1, missedNow);
                }
            }
        }

        // The ? of a LINE stand side by side, so its VALUE is whole at the last one of them.
        private void noteReading(Tablet tablet) {
            tablet.readingCount++;
            int value = 0;
            int current = NONE;
            for (int q = 0; q < tablet.holeCount; q++) {
                Hole hole = tablet.holes[q];
                hole.noteDigit(digits[q]);
                if (hole.line != current) {
                    current = hole.line;
                    value = tablet.lines[current].value;
                }
                value += digits[q] * hole.weight;
                if (q + 1 >= tablet.holeCount || tablet.holes[q + 1].line != current) {
                    tablet.lines[current].noteValue(value);
                }
            }
        }
    }

    /** A FRAGMENT: its text in ROWS, and its EDGES. */
    private static final class Fragment {
        private final Text text = new Text(MOST_FRAGMENT_TEXT);
        private int left;
        private int right;
        int rowCount;

        void take(Text from, int leftEdge, int rightEdge) {
            text.clear();
            rowCount = 1;
            for (int i = 0; i < from.size; i++) {
                int sign = from.byteAt(i);
                text.put(sign);
                rowCount += sign == '/' ? 1 : 0;
            }
            left = leftEdge;
            right = rightEdge;
        }

        boolean goesLeftOf(Fragment other) {
            return right != 0 && other.left != 0 && right + other.left == MOST_EDGE
                    && rowCount == other.rowCount;
        }

        void sayWith(Fragment other, Text into) {
            into.clear();
            int here = 0;
            int there = 0;
            for (int row = 0; row < rowCount; row++) {
                here = sayRow(here, into);
                there = other.sayRow(there, into);
            }
        }

        /** Says the ROW that begins at start, with a blank behind it: where the next one begins. */
        private int sayRow(int start, Text into) {
            int i = start;
            while (i < text.size && text.byteAt(i) != '/') {
                into.put(text.byteAt(i));
                i++;
            }
            into.put(' ');
            return i + 1;
        }
    }

    /** Makes the best MATCH. */
    private static final class Matcher {
        // More than all pairs together, so that one SURE pair outweighs them.
        private static final int SURE_WEIGHT = 16;

        final int[] partners = new int[MOST_FRAGMENTS];
        int pairCount;
        int sureCount;
        private final int[] weights = new int[MOST_FRAGMENTS * MOST_FRAGMENTS];
        // The weight of the best MATCH of each set of FRAGMENTS, a bit for each one.
        private final int[] best = new int[1 << MOST_FRAGMENTS];

        Matcher() {
            Arrays.fill(partners, NONE);
        }

        void forget() {
            Arrays.fill(partners, NONE);
            pairCount = 0;
            sureCount = 0;
        }

        /** How FRAGMENTS f and g, f the lesser number, are joined. */
        void tell(int f, int g, int joined) {
            int weight = joined == SURE ? SURE_WEIGHT + 1 : joined;
            weights[f * MOST_FRAGMENTS + g] = weight;
        }

        void pairUp(int fragmentCount) {
            forget();
            int n = Math.min(fragmentCount, MOST_FRAGMENTS);
            int sets = 1 << n;
            best[0] = 0;
            // Sets of which f is the least, behind those that are left of them without f.
            for (int f = n - 1; f >= 0; f--) {
                for (int set = 1 << f; set < sets; set += 2 << f) {
                    best[set] = bestOf(set, f, n);
                }
            }
            int free = sets - 1;
            for (int f = 0; f < n; f++) {
                if ((free >> f & 1) != 0) {
                    free = pairOff(free, f, n);
                }
            }
        }

        private int bestOf(int set, int f, int n) {
            int others = set & ~(1 << f);
            int most = best[others];
            for (int g = f + 1; g < n; g++) {
                int weight = weights[f * MOST_FRAGMENTS + g];
                if ((set >> g & 1) != 0 && weight > 0) {
                    most = Math.max(most, weight + best[others & ~(1 << g)]);
                }
            }
            return most;
        }

        /** Takes f, the least one that is free, with its partner out of the free ones: those that stay. */
        private int pairOff(int free, int f, int n) {
            int others = free & ~(1 << f);
            for (int g = f + 1; g < n; g++) {
                int weight = weights[f * MOST_FRAGMENTS + g];
                int rest = others & ~(1 << g);
                if (rest != others && weight > 0 && weight + best[rest] == best[free]) {
                    partners[f] = g;
                    partners[g] = f;
                    pairCount++;
                    sureCount += weight > SURE_WEIGHT ? 1 : 0;
                    return rest;
                }
            }
            return others;
        }
    }
}
