import java.util.NoSuchElementException;

/** Documents that are numbered anew so that lists of them get smaller; ../shared/DOC.md tells each call. */
public final class NumberedAnew {
    public static final int NONE = -1;

    private static final int NOT_SO = -2;
    private static final int MISSING = -3;
    private static final int CANNOT_ASK = -100;

    private static final int MOST_DOCUMENTS = 16;
    private static final int TERMS = 8;
    private static final int ALL_TERMS = 255;

    private static final int UNARY = 0;
    private static final int GAMMA = 1;
    private static final int DELTA = 2;
    private static final int CODES = 4;

    private static final int MOST_ROUNDS = 9;
    private static final int MOST_SWAPS = 20;
    private static final int SORTS = 4;
    private static final int MISSING_SHEET = 3;
    private static final int SHELVES = 2;
    /** Likeness, gains and what is taken off may be below 0; answers below 0 tell of refusals. */
    private static final int LIFT = 1000;

    private final Text text = new Text();
    private final Row told = new Row();
    private final Shelf shelf = new Shelf();
    private final Shelf draft = new Shelf();
    private final Shelf before = new Shelf();
    private final Steps steps = new Steps();
    private final Shelf[] put = new Shelf[SHELVES];
    private final boolean[] isPut = new boolean[SHELVES];
    private final Halver halver = new Halver();
    private final Swapper swapper = new Swapper();
    private final GapWriter writer = new GapWriter();
    private final GapReader reader = new GapReader();
    private final Hearsay hearsay = new Hearsay();

    public NumberedAnew() {
        for (int i = 0; i < SHELVES; i++) {
            put[i] = new Shelf();
        }
    }

    // ---- texts

    public int sign(int v) {
        return text.add(v) ? text.length() : NONE;
    }

    public boolean end(int n) {
        return text.cut(n);
    }

    public int documents() {
        int fault = Grammar.documentsFault(text, draft);
        text.clear();
        if (fault != NONE) {
            return -1 - fault;
        }
        steps.push(shelf);
        shelf.copyFrom(draft);
        return shelf.size();
    }

    public int order() {
        draft.copyFrom(shelf);
        int fault = Grammar.orderFault(text, draft);
        text.clear();
        if (fault != NONE) {
            return -1 - fault;
        }
        int changed = draft.unlike(shelf);
        steps.push(shelf);
        shelf.copyFrom(draft);
        return changed;
    }

    public int document(int d, int what) throws NoSuchElementException {
        if (!shelf.has(d) || what < 0 || what > 2) {
            throw new NoSuchElementException("no such document, or nothing that is told of it");
        }
        if (what == 1) {
            return shelf.numberOf(d);
        }
        int terms = shelf.termsOf(d);
        return what == 0 ? terms : Integer.bitCount(terms);
    }

    public int at(int number) throws NoSuchElementException {
        if (!shelf.has(number)) {
            throw new NoSuchElementException("no document has this number");
        }
        return shelf.documentAt(number);
    }

    public int sheet(int kind, int n, int f, int step) {
        if (kind < 0 || kind > MISSING_SHEET || n > MOST_DOCUMENTS) {
            return NONE;
        }
        if (kind == MISSING_SHEET) {
            fillIn(0, 0, 0);
            return MISSING;
        }
        if (n < 0) {
            return NOT_SO;
        }
        return fillIn(n, f, step);
    }

    /** Bytes, shorts and ints have the same lowest 8 bits, so their kind makes no difference here. */
    private int fillIn(int n, int f, int step) {
        int having = 0;
        for (int d = 0; d < shelf.size(); d++) {
            int entry = d < n ? (f + d * step) & ALL_TERMS : 0;
            shelf.setTerms(d, entry);
            if (entry != 0) {
                having++;
            }
        }
        return having;
    }

    // ---- lists

    public int list(int term) {
        if (!isTerm(term)) {
            return NONE;
        }
        return tellNumbers(shelf.listOf(term));
    }

    public int bits(int term, int code) {
        if (!isTerm(term) || !isCode(code)) {
            return NONE;
        }
        int numbers = shelf.listOf(term);
        told.tell(Codes.greatestGap(numbers));
        return Codes.listBits(numbers, code, shelf.size());
    }

    public int all(int code) {
        if (!isCode(code)) {
            return NONE;
        }
        int sum = 0;
        told.begin();
        for (int term = 0; term < TERMS; term++) {
            int taken = Codes.listBits(shelf.listOf(term), code, shelf.size());
            told.add(taken);
            sum += taken;
        }
        return sum;
    }

    public int shortest(int term) {
        if (!isTerm(term)) {
            return NONE;
        }
        int numbers = shelf.listOf(term);
        if (numbers == 0) {
            return NOT_SO;
        }
        int best = UNARY;
        int fewest = Codes.listBits(numbers, UNARY, shelf.size());
        for (int code = UNARY + 1; code < CODES; code++) {
            int taken = Codes.listBits(numbers, code, shelf.size());
            if (taken < fewest) {
                fewest = taken;
                best = code;
            }
        }
        told.tell(fewest);
        return best;
    }

    public int written(int term, int code) {
        if (!isTerm(term) || !isCode(code)) {
            return NONE;
        }
        writer.writeList(shelf.listOf(term), code, shelf.size());
        told.begin();
        for (int i = 0; i < writer.bytes(); i++) {
            told.add(writer.byteAt(i));
        }
        return writer.bytes();
    }

    public int read(int code, int n) {
        if (!isCode(code) || n < 0 || n > MOST_DOCUMENTS) {
            text.clear();
            return CANNOT_ASK;
        }
        int got = reader.readList(text, code, n, shelf.size());
        text.clear();
        if (got < n) {
            return -1 - got;
        }
        told.begin();
        for (int k = 0; k < n; k++) {
            told.add(reader.numberAt(k));
        }
        return reader.bitsRead();
    }

    public int least(int term) {
        if (!isTerm(term)) {
            return NONE;
        }
        int ways = waysOf(term);
        told.tell(ways);
        return Codes.bitsToTell(ways);
    }

    private int waysOf(int term) {
        return Codes.setsOf(shelf.size(), Integer.bitCount(shelf.listOf(term)));
    }

    public int audit() {
        int sum = 0;
        for (int term = 0; term < TERMS; term++) {
            sum += Codes.bitsToTell(waysOf(term));
        }
        told.begin();
        for (int code = 0; code < CODES; code++) {
            told.add(shelf.bitsOfAll(code) - sum);
        }
        return sum;
    }

    // ---- numbered anew

    public int halves(int r) {
        before.copyFrom(shelf);
        return remembered(halved(shelf, r));
    }

    public int would(int r) {
        draft.copyFrom(shelf);
        return halved(draft, r);
    }

    public int gain(int d) {
        if (!shelf.has(d)) {
            return NONE;
        }
        if (shelf.size() < 2) {
            return NOT_SO;
        }
        int number = shelf.numberOf(d);
        halver.measure(shelf, 0, shelf.size());
        told.tell(number < Halver.firstOf(shelf.size()) ? 1 : 2);
        return LIFT + halver.gainAt(number);
    }

    public int sorts(int how) {
        before.copyFrom(shelf);
        return remembered(sorted(how));
    }

    public int swaps(int a, int b) {
        before.copyFrom(shelf);
        return remembered(relaid(a, b, false));
    }

    public int moves(int a, int b) {
        before.copyFrom(shelf);
        return remembered(relaid(a, b, true));
    }

    public int best() {
        int taken = swapper.find(shelf);
        if (taken < 1) {
            return NOT_SO;
        }
        told.tellBoth(swapper.first(), swapper.second());
        return taken;
    }

    public int place(int d) {
        if (!shelf.has(d)) {
            return NONE;
        }
        int own = shelf.numberOf(d);
        int best = NONE;
        int fewest = 0;
        for (int number = 0; number < shelf.size(); number++) {
            draft.copyFrom(shelf);
            draft.move(own, number);
            int left = draft.bitsOfAll(GAMMA);
            if (best == NONE || left < fewest) {
                fewest = left;
                best = number;
            }
        }
        told.tell(fewest);
        return best;
    }

    public int climbs(int n) {
        before.copyFrom(shelf);
        return remembered(climbed(n));
    }

    /** Only what was done can be undone; "before" holds what was ahead of it. */
    private int remembered(int answer) {
        if (answer >= 0) {
            steps.push(before);
        }
        return answer;
    }

    private int halved(Shelf which, int r) {
        if (r < 1 || r > MOST_ROUNDS) {
            return NONE;
        }
        if (which.size() < 2) {
            return NOT_SO;
        }
        int ahead = which.bitsOfAll(GAMMA);
        int swaps = halver.halveAll(which, r);
        told.tellBoth(ahead, which.bitsOfAll(GAMMA));
        return swaps;
    }

    private int sorted(int how) {
        if (how < 0 || how >= SORTS) {
            return NONE;
        }
        draft.copyFrom(shelf);
        shelf.sortBy(how);
        return shelf.unlike(draft);
    }

    private int relaid(int a, int b, boolean moving) {
        if (!shelf.has(a) || !shelf.has(b)) {
            return NONE;
        }
        if (a == b) {
            return NOT_SO;
        }
        int ahead = shelf.bitsOfAll(GAMMA);
        if (moving) {
            shelf.move(a, b);
        } else {
            shelf.swap(a, b);
        }
        return LIFT + ahead - shelf.bitsOfAll(GAMMA);
    }

    private int climbed(int n) {
        if (n < 1 || n > MOST_SWAPS) {
            return NONE;
        }
        int done = 0;
        while (done < n && swapper.find(shelf) > 0) {
            shelf.swap(swapper.first(), swapper.second());
            done++;
        }
        told.tell(shelf.bitsOfAll(GAMMA));
        return done;
    }

    // ---- what is found

    public int having(int set) {
        if (set < 0 || set > ALL_TERMS) {
            return NONE;
        }
        int numbers = 0;
        for (int number = 0; number < shelf.size(); number++) {
            if ((shelf.termsAt(number) & set) == set) {
                numbers |= 1 << number;
            }
        }
        return tellNumbers(numbers);
    }

    public int compared(int one, int other) {
        if (!isTerm(one) || !isTerm(other) || one == other) {
            return NONE;
        }
        int left = shelf.listOf(one);
        int right = shelf.listOf(other);
        int comparisons = 0;
        int alike = 0;
        // Each comparison takes a number off one list at least, and both have 32 at most together.
        for (int i = 0; i < 2 * MOST_DOCUMENTS && left != 0 && right != 0; i++) {
            int leftLeast = left & -left;
            int rightLeast = right & -right;
            comparisons++;
            if (leftLeast == rightLeast) {
                alike++;
            }
            left ^= leftLeast <= rightLeast ? leftLeast : 0;
            right ^= rightLeast <= leftLeast ? rightLeast : 0;
        }
        told.tell(alike);
        return comparisons;
    }

    public int blocks(int term, int b) {
        if (!isTerm(term) || b < 1 || b > MOST_DOCUMENTS) {
            return NONE;
        }
        int numbers = shelf.listOf(term);
        int touched = 0;
        int most = 0;
        for (int begin = 0; begin < MOST_DOCUMENTS; begin += b) {
            int inside = Integer.bitCount((numbers >> begin) & ((1 << b) - 1));
            if (inside > 0) {
                touched++;
            }
            most = Math.max(most, inside);
        }
        told.tell(most);
        return touched;
    }

    public int runs(int term) {
        if (!isTerm(term)) {
            return NONE;
        }
        int numbers = shelf.listOf(term);
        int longest = 0;
        // Each step leaves a run without one of its numbers, so the longest one lasts longest.
        for (int rest = numbers; rest != 0 && longest < MOST_DOCUMENTS; rest &= rest << 1) {
            longest++;
        }
        told.tell(longest);
        return Integer.bitCount(numbers & ~(numbers << 1));
    }

    public int likeness() {
        if (shelf.size() < 2) {
            return NOT_SO;
        }
        int sum = 0;
        int first = 0;
        int fewest = Codes.likenessOf(shelf.termsAt(0), shelf.termsAt(1));
        for (int number = 0; number + 1 < shelf.size(); number++) {
            int alike = Codes.likenessOf(shelf.termsAt(number), shelf.termsAt(number + 1));
            sum += alike;
            if (alike < fewest) {
                fewest = alike;
                first = number;
            }
        }
        told.tellBoth(fewest, first);
        return LIFT + sum;
    }

    public int nearest(int d) {
        if (!shelf.has(d)) {
            return NONE;
        }
        if (shelf.size() < 2) {
            return NOT_SO;
        }
        int best = NONE;
        int most = 0;
        for (int other = 0; other < shelf.size(); other++) {
            int alike = Codes.likenessOf(shelf.termsOf(d), shelf.termsOf(other));
            if (other != d && (best == NONE || alike > most)) {
                best = other;
                most = alike;
            }
        }
        told.tell(LIFT + most);
        return best;
    }

    // ---- which document it was

    public int heard(int what, int v, int yes) {
        return hearsay.add(what, v, yes) ? hearsay.size() : NONE;
    }

    public int forget() {
        int were = hearsay.size();
        hearsay.clear();
        return were;
    }

    public int fits() {
        int fitting = hearsay.fitting(shelf);
        told.tell(Integer.bitCount(fitting));
        return fitting;
    }

    public int asks() {
        int fitting = hearsay.fitting(shelf);
        if (fitting == 0) {
            return NOT_SO;
        }
        int best = 0;
        int fewest = MOST_DOCUMENTS + 1;
        for (int term = 0; term < TERMS; term++) {
            int with = Integer.bitCount(fitting & shelf.documentsWith(term));
            int worst = Math.max(with, Integer.bitCount(fitting) - with);
            if (worst < fewest) {
                fewest = worst;
                best = term;
            }
        }
        told.tell(fewest);
        return best;
    }

    // ---- days

    public int day() {
        int fault = Grammar.dayFault(text);
        if (fault != NONE) {
            text.clear();
            return -1 - fault;
        }
        before.copyFrom(shelf);
        int done = 0;
        int failed = 0;
        for (int p = 0; p < text.length() && failed == 0; p += Math.max(1, Grammar.signsOfAct(text.signAt(p)))) {
            if (actAt(p) < 0) {
                failed = 1;
            } else {
                done++;
            }
        }
        text.clear();
        if (done > 0) {
            steps.push(before);
        }
        told.tellBoth(failed, shelf.bitsOfAll(GAMMA));
        return done;
    }

    private int actAt(int p) {
        switch (text.signAt(p)) {
            case 's':
                return relaid(text.pairAt(p + 1), text.pairAt(p + 3), false);
            case 'm':
                return relaid(text.pairAt(p + 1), text.pairAt(p + 3), true);
            case 'h':
                return halved(shelf, text.digitAt(p + 1));
            case 'o':
                return sorted(text.digitAt(p + 1));
            case 'c':
                return climbed(text.pairAt(p + 1));
            default:
                return NONE;
        }
    }

    public int undo() {
        return steps.pop(shelf) ? steps.size() : NONE;
    }

    public int years(int seed, int n, int r) {
        if (n < 1 || n > MOST_SWAPS || r < 1 || r > MOST_ROUNDS) {
            return NONE;
        }
        if (shelf.size() < 2) {
            return NOT_SO;
        }
        draft.copyFrom(shelf);
        shuffle(draft, seed, n);
        int ahead = draft.bitsOfAll(GAMMA);
        int swaps = halver.halveAll(draft, r);
        told.tellBoth(ahead, swaps);
        return draft.bitsOfAll(GAMMA);
    }

    private static void shuffle(Shelf which, int seed, int n) {
        int size = which.size();
        if (size < 1) {
            return;
        }
        int state = seed;
        for (int i = 0; i < n; i++) {
            state = drawn(state);
            int a = (state >>> 16) % size;
            state = drawn(state);
            int b = (state >>> 16) % size;
            which.swap(a, b);
        }
    }

    private static int drawn(int state) {
        return state * 1103515245 + 12345;
    }

    // ---- kept

    public boolean keep(int i) {
        if (i < 0 || i >= SHELVES) {
            return false;
        }
        put[i].copyFrom(shelf);
        isPut[i] = true;
        return true;
    }

    public boolean again(int i) {
        if (i < 0 || i >= SHELVES || !isPut[i]) {
            return false;
        }
        shelf.copyFrom(put[i]);
        steps.clear();
        return true;
    }

    public int count(int what) {
        switch (what) {
            case 0:
                return shelf.size();
            case 1:
                return shelf.termsOfAny();
            case 2:
                return steps.size();
            case 3:
                return hearsay.size();
            case 4:
                return told.size();
            case 5:
                return text.length();
            case 6:
                return shelf.termsTogether();
            default:
                return NONE;
        }
    }

    public long row(int i) throws NoSuchElementException {
        if (!told.has(i)) {
            throw new NoSuchElementException("the row has no such number");
        }
        return told.numberAt(i);
    }

    private static boolean isTerm(int term) {
        return term >= 0 && term < TERMS;
    }

    private static boolean isCode(int code) {
        return code >= 0 && code < CODES;
    }

    /** The row becomes the numbers of a set; how many they are. */
    private int tellNumbers(int numbers) {
        told.begin();
        for (int number = 0; number < MOST_DOCUMENTS; number++) {
            if (((numbers >> number) & 1) == 1) {
                told.add(number);
            }
        }
        return told.size();
    }

    /** The numbers that a call told last. */
    private static final class Row {
        private static final int MOST = 32;

        private final long[] numbers = new long[MOST];
        private int size;

        Row() {
            size = 0;
        }

        int size() {
            return size;
        }

        boolean has(int i) {
            return i >= 0 && i < size;
        }

        long numberAt(int i) {
            return has(i) ? numbers[i] : 0;
        }

        void begin() {
            size = 0;
        }

        void add(long number) {
            if (size < MOST) {
                numbers[size] = number;
                size++;
            }
        }

        void tell(long number) {
            begin();
            add(number);
        }

        void tellBoth(long first, long second) {
            begin();
            add(first);
            add(second);
        }
    }

    /** THE TEXT: signs that the next call that reads it empties. */
    private static final class Text {
        private static final int MOST = 80;
        private static final int SIGNS = 4;

        private final char[] signs = new char[MOST];
        private int length;

        Text() {
            length = 0;
        }

        int length() {
            return length;
        }

        void clear() {
            length = 0;
        }

        boolean add(int four) {
            if (length + SIGNS > MOST) {
                return false;
            }
            for (int shift = 24; shift >= 0; shift -= 8) {
                signs[length] = (char) ((four >>> shift) & 255);
                length++;
            }
            return true;
        }

        boolean cut(int n) {
            if (n < 0 || n > length) {
                return false;
            }
            length = n;
            return true;
        }

        /** The end is NONE, which no grammar takes: so a text that ends too early is wrong at its end. */
        int signAt(int p) {
            return p >= 0 && p < length ? signs[p] : NONE;
        }

        /** NONE: there is no digit. */
        int digitAt(int p) {
            int sign = signAt(p);
            return sign >= '0' && sign <= '9' ? sign - '0' : NONE;
        }

        /** NONE: there are no two digits. */
        int pairAt(int p) {
            int tens = digitAt(p);
            int ones = digitAt(p + 1);
            return tens == NONE || ones == NONE ? NONE : tens * 10 + ones;
        }
    }

    /** Where a text can't be what it is read as: the place of the sign, or NONE. */
    private static final class Grammar {
        /** Behind "-" no letter rises any more. */
        private static final int NO_TERMS = TERMS;

        private Grammar() {
        }

        static int documentsFault(Text text, Shelf into) {
            into.clear();
            if (text.length() == 0) {
                return NONE;
            }
            int terms = 0;
            int last = NONE;
            for (int p = 0; p < text.length(); p++) {
                int sign = text.signAt(p);
                if (sign == ';' && last != NONE && into.size() + 1 < MOST_DOCUMENTS) {
                    into.add(terms);
                    terms = 0;
                    last = NONE;
                } else if (sign == '-' && last == NONE) {
                    last = NO_TERMS;
                } else if (isTerm(sign - 'a') && sign - 'a' > last) {
                    last = sign - 'a';
                    terms |= 1 << last;
                } else {
                    return p;
                }
            }
            into.add(terms);
            return last == NONE ? text.length() : NONE;
        }

        static int orderFault(Text text, Shelf into) {
            int seen = 0;
            for (int number = 0; number < into.size(); number++) {
                int p = 2 * number;
                if (text.digitAt(p) == NONE) {
                    return p;
                }
                int d = text.pairAt(p);
                if (!into.has(d) || ((seen >> d) & 1) == 1) {
                    return p + 1;
                }
                seen |= 1 << d;
                into.lay(number, d);
            }
            int whole = 2 * into.size();
            return text.length() > whole ? whole : NONE;
        }

        static int dayFault(Text text) {
            int p = 0;
            while (p < text.length()) {
                int act = text.signAt(p);
                int signs = signsOfAct(act);
                if (signs < 1) {
                    return p;
                }
                for (int i = 1; i < signs; i++) {
                    if (!stands(act, text.digitAt(p + i))) {
                        return p + i;
                    }
                }
                p += signs;
            }
            return NONE;
        }

        /** Its letter and its digits; 0: there is no such act. */
        static int signsOfAct(int act) {
            switch (act) {
                case 's':
                case 'm':
                    return 5;
                case 'h':
                case 'o':
                    return 2;
                case 'c':
                    return 3;
                default:
                    return 0;
            }
        }

        private static boolean stands(int act, int digit) {
            if (digit == NONE) {
                return false;
            }
            if (act == 'h') {
                return digit >= 1;
            }
            return act != 'o' || digit < SORTS;
        }
    }

    /** DOCUMENTS, their TERMS, and which of them has which NUMBER. */
    private static final class Shelf {
        private static final int BY_TERMS = 0;
        private static final int BY_MANY = 1;
        private static final int BY_LIKENESS = 2;

        private final int[] terms = new int[MOST_DOCUMENTS];
        private final int[] lying = new int[MOST_DOCUMENTS];
        private int size;

        Shelf() {
            size = 0;
        }

        int size() {
            return size;
        }

        /** Documents and numbers are the same integers, so this asks for both. */
        boolean has(int which) {
            return which >= 0 && which < size;
        }

        int termsOf(int d) {
            return has(d) ? terms[d] : 0;
        }

        int documentAt(int number) {
            return has(number) ? lying[number] : NONE;
        }

        int termsAt(int number) {
            int d = number >= 0 && number < size ? lying[number] : NONE;
            return d >= 0 && d < size ? terms[d] : 0;
        }

        int numberOf(int d) {
            for (int number = 0; number < size; number++) {
                if (lying[number] == d) {
                    return number;
                }
            }
            return NONE;
        }

        void clear() {
            size = 0;
        }

        void add(int itsTerms) {
            if (size < MOST_DOCUMENTS) {
                terms[size] = itsTerms;
                lying[size] = size;
                size++;
            }
        }

        void setTerms(int d, int itsTerms) {
            if (has(d)) {
                terms[d] = itsTerms;
            }
        }

        void lay(int number, int d) {
            if (has(number) && has(d)) {
                lying[number] = d;
            }
        }

        void copyFrom(Shelf other) {
            size = other.size;
            for (int i = 0; i < size; i++) {
                terms[i] = other.terms[i];
                lying[i] = other.lying[i];
            }
        }

        void swap(int a, int b) {
            if (has(a) && has(b)) {
                int d = lying[a];
                lying[a] = lying[b];
                lying[b] = d;
            }
        }

        void move(int a, int b) {
            for (int number = a; number < b; number++) {
                swap(number, number + 1);
            }
            for (int number = a; number > b; number--) {
                swap(number, number - 1);
            }
        }

        /** How many documents have another number than in another order of the same ones. */
        int unlike(Shelf other) {
            int changed = 0;
            for (int number = 0; number < size; number++) {
                if (documentAt(number) != other.documentAt(number)) {
                    changed++;
                }
            }
            return changed;
        }

        /** The list of a term, as bits by number. */
        int listOf(int term) {
            int numbers = 0;
            for (int number = 0; number < size; number++) {
                numbers |= ((termsAt(number) >> term) & 1) << number;
            }
            return numbers;
        }

        /** How many of a row of documents, as they lie, have a term. */
        int manyWith(int term, int from, int many) {
            int having = 0;
            for (int number = from; number < from + many; number++) {
                having += (termsAt(number) >> term) & 1;
            }
            return having;
        }

        int documentsWith(int term) {
            int having = 0;
            for (int d = 0; d < size; d++) {
                having |= ((terms[d] >> term) & 1) << d;
            }
            return having;
        }

        int bitsOfAll(int code) {
            int sum = 0;
            for (int term = 0; term < TERMS; term++) {
                sum += Codes.listBits(listOf(term), code, size);
            }
            return sum;
        }

        void sortBy(int how) {
            if (how == BY_TERMS || how == BY_MANY) {
                sortByKeys(how);
            } else if (how == BY_LIKENESS) {
                chainByLikeness();
            } else {
                turnAbout();
            }
        }

        private void sortByKeys(int how) {
            for (int i = 1; i < size; i++) {
                // Only neighbours that are not alike swap, so like ones stay as they lie.
                for (int number = i; number > 0 && keyAt(number - 1, how) > keyAt(number, how); number--) {
                    swap(number - 1, number);
                }
            }
        }

        private int keyAt(int number, int how) {
            int itsTerms = termsAt(number);
            return how == BY_TERMS ? itsTerms : -Integer.bitCount(itsTerms);
        }

        private void chainByLikeness() {
            for (int number = 1; number < size; number++) {
                // Moving it, not swapping it, leaves the others as they lie.
                move(mostAlikeBehind(number - 1), number);
            }
        }

        private int mostAlikeBehind(int number) {
            int best = number + 1;
            int most = Codes.likenessOf(termsAt(number), termsAt(best));
            for (int other = best + 1; other < size; other++) {
                int alike = Codes.likenessOf(termsAt(number), termsAt(other));
                if (alike > most) {
                    most = alike;
                    best = other;
                }
            }
            return best;
        }

        private void turnAbout() {
            for (int number = 0; number < size / 2; number++) {
                swap(number, size - 1 - number);
            }
        }

        int termsOfAny() {
            int any = 0;
            for (int d = 0; d < size; d++) {
                any |= terms[d];
            }
            return any;
        }

        int termsTogether() {
            int sum = 0;
            for (int d = 0; d < size; d++) {
                sum += Integer.bitCount(terms[d]);
            }
            return sum;
        }
    }

    /** What is counted of numbers and of sets alone; lists are bits by number. */
    private static final class Codes {
        /** Of an int above 0. */
        private static final int MOST_DIGITS = 31;

        private Codes() {
        }

        static int digits(int number) {
            int many = 0;
            while (many < MOST_DIGITS && (number >> many) > 0) {
                many++;
            }
            return many;
        }

        static int gapBits(int gap, int code, int documents) {
            switch (code) {
                case UNARY:
                    return gap;
                case GAMMA:
                    return 2 * digits(gap) - 1;
                case DELTA:
                    return digits(gap) - 1 + 2 * digits(digits(gap)) - 1;
                default:
                    return digits(documents);
            }
        }

        static int listBits(int numbers, int code, int documents) {
            int sum = 0;
            int last = NONE;
            int rest = numbers;
            // The best swap asks this thousands of times, so only the numbers of the list are gone through.
            for (int left = Integer.bitCount(numbers); left > 0; left--) {
                int number = Integer.bitCount((rest & -rest) - 1);
                sum += gapBits(number - last, code, documents);
                last = number;
                rest &= rest - 1;
            }
            return sum;
        }

        static int greatestGap(int numbers) {
            int greatest = 0;
            int last = NONE;
            for (int number = 0; number < MOST_DOCUMENTS; number++) {
                if (((numbers >> number) & 1) == 1) {
                    greatest = Math.max(greatest, number - last);
                    last = number;
                }
            }
            return greatest;
        }

        /** How many sets of so many there are, of so many documents: each step divides without a rest. */
        static int setsOf(int documents, int many) {
            int sets = 1;
            for (int i = 1; i <= many; i++) {
                sets = sets * (documents - many + i) / i;
            }
            return sets;
        }

        static int bitsToTell(int ways) {
            int needed = 0;
            while (needed < 30 && (1 << needed) < ways) {
                needed++;
            }
            return needed;
        }

        static int likenessOf(int some, int others) {
            return 10 * Integer.bitCount(some & others) - Integer.bitCount(some ^ others);
        }
    }

    /** HALVING; gains and ranks are by NUMBER, and all rows are used again by every half. */
    private static final class Halver {
        private final int[] froms = new int[MOST_DOCUMENTS];
        private final int[] sizes = new int[MOST_DOCUMENTS];
        private final int[] gains = new int[MOST_DOCUMENTS];
        private final int[] ranks = new int[MOST_DOCUMENTS];
        private final int[] gainsOfFirst = new int[TERMS];
        private final int[] gainsOfSecond = new int[TERMS];
        private int waiting;

        Halver() {
            waiting = 0;
        }

        static int firstOf(int size) {
            return (size + 1) / 2;
        }

        /** How many swaps there were. */
        int halveAll(Shelf shelf, int rounds) {
            int swaps = 0;
            waiting = 0;
            putOff(0, shelf.size());
            // 16 documents make 15 rows of two or more: the whole, its halves, their halves, ..
            for (int i = 0; i < MOST_DOCUMENTS && waiting > 0; i++) {
                waiting--;
                int from = froms[waiting];
                int size = sizes[waiting];
                int latest = 1;
                for (int turn = 0; turn < rounds && latest > 0; turn++) {
                    measure(shelf, from, size);
                    latest = swapByGains(shelf, from, size);
                    swaps += latest;
                }
                // What is put off last is taken first: the first half with all its halves.
                int first = firstOf(size);
                putOff(from + first, size - first);
                putOff(from, first);
            }
            return swaps;
        }

        private void putOff(int from, int size) {
            if (size >= 2 && waiting < MOST_DOCUMENTS) {
                froms[waiting] = from;
                sizes[waiting] = size;
                waiting++;
            }
        }

        /** The gains of all documents of a row, before any of them is swapped. */
        void measure(Shelf shelf, int from, int size) {
            int first = firstOf(size);
            int second = size - first;
            for (int term = 0; term < TERMS; term++) {
                int inFirst = shelf.manyWith(term, from, first);
                int inSecond = shelf.manyWith(term, from + first, second);
                int now = weight(first, inFirst) + weight(second, inSecond);
                gainsOfFirst[term] = now - weight(first, inFirst - 1) - weight(second, inSecond + 1);
                gainsOfSecond[term] = now - weight(first, inFirst + 1) - weight(second, inSecond - 1);
            }
            for (int i = 0; i < size; i++) {
                int number = from + i;
                if (number >= 0 && number < MOST_DOCUMENTS) {
                    gains[number] = sumOf(shelf.termsAt(number), i < first ? gainsOfFirst : gainsOfSecond);
                }
            }
        }

        private static int weight(int size, int having) {
            return having < 1 ? 0 : having * Codes.digits(size / (having + 1));
        }

        private static int sumOf(int terms, int[] byTerm) {
            int sum = 0;
            for (int term = 0; term < byTerm.length; term++) {
                if (((terms >> term) & 1) == 1) {
                    sum += byTerm[term];
                }
            }
            return sum;
        }

        int gainAt(int number) {
            return number >= 0 && number < MOST_DOCUMENTS ? gains[number] : 0;
        }

        /** Gains are by number and each number swaps once a round, so they hold to the round's end. */
        private int swapByGains(Shelf shelf, int from, int size) {
            int first = firstOf(size);
            rank(from, first);
            rank(from + first, size - first);
            int swaps = 0;
            // The second half is never the larger one.
            while (swaps < size - first) {
                int a = rankedAt(from + swaps);
                int b = rankedAt(from + first + swaps);
                if (gainAt(a) + gainAt(b) <= 0) {
                    break;
                }
                shelf.swap(a, b);
                swaps++;
            }
            return swaps;
        }

        /** The numbers of a half, the greatest gain first, like ones as they lie. */
        private void rank(int from, int size) {
            if (from < 0 || from + size > MOST_DOCUMENTS) {
                return;
            }
            for (int number = from; number < from + size; number++) {
                int hole = number;
                while (hole > from && gainAt(ranks[hole - 1]) < gains[number]) {
                    ranks[hole] = ranks[hole - 1];
                    hole--;
                }
                ranks[hole] = number;
            }
        }

        private int rankedAt(int i) {
            return i >= 0 && i < MOST_DOCUMENTS ? ranks[i] : NONE;
        }
    }

    /** The swap that takes off the most bits by gamma. */
    private static final class Swapper {
        private final int[] lists = new int[TERMS];
        private final int[] taken = new int[TERMS];
        private int first;
        private int second;

        Swapper() {
            first = NONE;
            second = NONE;
        }

        int first() {
            return first;
        }

        int second() {
            return second;
        }

        /** How many bits the best swap takes off; 0: none takes off any. */
        int find(Shelf shelf) {
            for (int term = 0; term < TERMS; term++) {
                lists[term] = shelf.listOf(term);
                taken[term] = Codes.listBits(lists[term], GAMMA, shelf.size());
            }
            int most = 0;
            for (int a = 0; a < shelf.size(); a++) {
                for (int b = a + 1; b < shelf.size(); b++) {
                    int off = takenOff(shelf, a, b);
                    if (off > most) {
                        most = off;
                        first = a;
                        second = b;
                    }
                }
            }
            return most;
        }

        /** Only lists of terms that just one of both has are changed by a swap. */
        private int takenOff(Shelf shelf, int a, int b) {
            int changed = shelf.termsAt(a) ^ shelf.termsAt(b);
            int both = (1 << a) | (1 << b);
            int off = 0;
            for (int term = 0; term < TERMS; term++) {
                if (((changed >> term) & 1) == 1) {
                    off += taken[term] - Codes.listBits(lists[term] ^ both, GAMMA, shelf.size());
                }
            }
            return off;
        }
    }

    /** What can be undone: the latest ones in a ring, so that the oldest gives way. */
    private static final class Steps {
        private static final int MOST = 10;

        private final Shelf[] ring = new Shelf[MOST];
        private int size;
        private int next;

        Steps() {
            size = 0;
            next = 0;
            for (int i = 0; i < MOST; i++) {
                ring[i] = new Shelf();
            }
        }

        int size() {
            return size;
        }

        void clear() {
            size = 0;
        }

        void push(Shelf shelf) {
            ring[next].copyFrom(shelf);
            next = (next + 1) % MOST;
            size = Math.min(size + 1, MOST);
        }

        boolean pop(Shelf into) {
            if (size < 1) {
                return false;
            }
            next = (next + MOST - 1) % MOST;
            size--;
            into.copyFrom(ring[next]);
            return true;
        }
    }

    /** A list WRITTEN as bits. */
    private static final class GapWriter {
        private static final int MOST = 32;

        private final int[] octets = new int[MOST];
        private int length;

        GapWriter() {
            length = 0;
        }

        int bytes() {
            return (length + 7) / 8;
        }

        int byteAt(int i) {
            return i >= 0 && i < MOST ? octets[i] : 0;
        }

        void writeList(int numbers, int code, int documents) {
            length = 0;
            int last = NONE;
            for (int number = 0; number < MOST_DOCUMENTS; number++) {
                if (((numbers >> number) & 1) == 1) {
                    writeGap(number - last, code, documents);
                    last = number;
                }
            }
        }

        private void writeGap(int gap, int code, int documents) {
            switch (code) {
                case UNARY:
                    writeUnary(gap);
                    break;
                case GAMMA:
                    writeGamma(gap);
                    break;
                case DELTA:
                    writeGamma(Codes.digits(gap));
                    writeDigits(gap, Codes.digits(gap) - 1);
                    break;
                default:
                    writeDigits(gap, Codes.digits(documents));
                    break;
            }
        }

        private void writeUnary(int gap) {
            for (int i = 1; i < gap; i++) {
                writeBit(1);
            }
            writeBit(0);
        }

        private void writeGamma(int gap) {
            int digits = Codes.digits(gap);
            writeDigits(0, digits - 1);
            writeDigits(gap, digits);
        }

        /** The lowest digits of a number, the highest of them first. */
        private void writeDigits(int number, int digits) {
            for (int i = digits - 1; i >= 0; i--) {
                writeBit((number >> i) & 1);
            }
        }

        private void writeBit(int bit) {
            int i = length / 8;
            if (i >= MOST) {
                return;
            }
            if (length % 8 == 0) {
                octets[i] = 0;
            }
            octets[i] |= bit << (7 - length % 8);
            length++;
        }
    }

    /** A list READ from a text's bits; a gap that can't be read is 0, which is no gap. */
    private static final class GapReader {
        private static final int GREATEST = 255;
        private static final int MOST_DIGITS = 8;

        private final int[] numbers = new int[MOST_DOCUMENTS];
        private int length;

        GapReader() {
            length = 0;
        }

        int bitsRead() {
            return length;
        }

        int numberAt(int k) {
            return k >= 0 && k < MOST_DOCUMENTS ? numbers[k] : NONE;
        }

        /** How many gaps could be read, so many at most. */
        int readList(Text text, int code, int many, int documents) {
            length = 0;
            int last = NONE;
            for (int k = 0; k < many && k < MOST_DOCUMENTS; k++) {
                int gap = readGap(text, code, documents);
                if (gap < 1 || gap > GREATEST) {
                    return k;
                }
                last += gap;
                numbers[k] = last;
            }
            return many;
        }

        private int readGap(Text text, int code, int documents) {
            switch (code) {
                case UNARY:
                    return readUnary(text);
                case GAMMA:
                    return readGamma(text);
                case DELTA:
                    int digits = readGamma(text);
                    return digits < 1 || digits > MOST_DIGITS ? 0 : readDigits(text, 1, digits - 1);
                default:
                    return readDigits(text, 0, Codes.digits(documents));
            }
        }

        private int readUnary(Text text) {
            for (int gap = 1; gap <= GREATEST; gap++) {
                int bit = readBit(text);
                if (bit != 1) {
                    return bit == 0 ? gap : 0;
                }
            }
            return 0;
        }

        private int readGamma(Text text) {
            for (int noughts = 0; noughts < MOST_DIGITS; noughts++) {
                int bit = readBit(text);
                if (bit != 0) {
                    return bit == 1 ? readDigits(text, 1, noughts) : 0;
                }
            }
            return 0;
        }

        /** A number whose highest digits were read goes on with further ones. */
        private int readDigits(Text text, int begun, int digits) {
            int number = begun;
            for (int i = 0; i < digits; i++) {
                int bit = readBit(text);
                if (bit == NONE) {
                    return 0;
                }
                number = 2 * number + bit;
            }
            return number;
        }

        /** NONE: bits are at an end. */
        private int readBit(Text text) {
            int sign = text.signAt(length / 8);
            if (sign == NONE) {
                return NONE;
            }
            int bit = (sign >> (7 - length % 8)) & 1;
            length++;
            return bit;
        }
    }

    /** What was heard of a document. */
    private static final class Hearsay {
        private static final int MOST = 8;
        private static final int OF_TERM = 0;
        private static final int OF_NUMBER = 1;

        private final int[] whats = new int[MOST];
        private final int[] values = new int[MOST];
        private final boolean[] answers = new boolean[MOST];
        private int size;

        Hearsay() {
            size = 0;
        }

        int size() {
            return size;
        }

        void clear() {
            size = 0;
        }

        boolean add(int what, int v, int yes) {
            if (size >= MOST || !canBeHeard(what, v) || yes < 0 || yes > 1) {
                return false;
            }
            whats[size] = what;
            values[size] = v;
            answers[size] = yes == 1;
            size++;
            return true;
        }

        private static boolean canBeHeard(int what, int v) {
            if (what == OF_TERM) {
                return isTerm(v);
            }
            return what == OF_NUMBER && v >= 0 && v < MOST_DOCUMENTS;
        }

        /** Documents that fit all that was heard, as bits. */
        int fitting(Shelf shelf) {
            int fitting = 0;
            for (int number = 0; number < shelf.size(); number++) {
                if (isFitting(shelf.termsAt(number), number)) {
                    fitting |= 1 << shelf.documentAt(number);
                }
            }
            return fitting;
        }

        private boolean isFitting(int terms, int number) {
            for (int i = 0; i < size; i++) {
                boolean so = whats[i] == OF_TERM ? ((terms >> values[i]) & 1) == 1 : number >= values[i];
                if (so != answers[i]) {
                    return false;
                }
            }
            return true;
        }
    }
}
