import java.util.ArrayDeque;
import java.util.ArrayList;
import java.util.Arrays;
import java.util.Collections;
import java.util.Comparator;
import java.util.Deque;
import java.util.List;
import java.util.NoSuchElementException;
import java.util.regex.Matcher;
import java.util.regex.Pattern;

/**
 * The document once more, as near to its words as the Java library allows and by other ways than the class:
 * codes are texts of bits, grammars are regular expressions, halves are lists of their own.
 */
final class Model {
    private static final Pattern DOCUMENTS;
    private static final Pattern DAY = Pattern.compile("([sm][0-9]{4}|h[1-9]|o[0-3]|c[0-9]{2})*");

    static {
        String one = "((?=[a-h])a?b?c?d?e?f?g?h?|-)";
        DOCUMENTS = Pattern.compile("(" + one + "(;" + one + "){0,15})?");
    }

    /** DOCUMENTS with their TERMS as texts, and DOCUMENTS by their NUMBERS. */
    private record State(List<String> terms, List<Integer> order) {
    }

    private State now = new State(List.of(), List.of());
    private String text = "";
    private List<Long> told = List.of();
    private final Deque<State> undoable = new ArrayDeque<>();
    private final State[] kept = new State[2];
    private final List<int[]> hearsay = new ArrayList<>();

    // ---- texts

    int sign(int v) {
        if (text.length() + 4 > 80) {
            return -1;
        }
        for (int i = 3; i >= 0; i--) {
            text += (char) (v >>> 8 * i & 255);
        }
        return text.length();
    }

    boolean end(int n) {
        if (n < 0 || n > text.length()) {
            return false;
        }
        text = text.substring(0, n);
        return true;
    }

    private String taken() {
        String was = text;
        text = "";
        return was;
    }

    /** The first place whose sign no text of the pattern can have there; -1: it is one. */
    private static int fault(Pattern pattern, String text) {
        for (int p = 0; p < text.length(); p++) {
            Matcher matcher = pattern.matcher(text.substring(0, p + 1));
            if (!matcher.matches() && !matcher.hitEnd()) {
                return p;
            }
        }
        return pattern.matcher(text).matches() ? -1 : text.length();
    }

    int documents() {
        String said = taken();
        int p = fault(DOCUMENTS, said);
        if (p >= 0) {
            return -1 - p;
        }
        List<String> terms = new ArrayList<>();
        List<Integer> order = new ArrayList<>();
        if (!said.isEmpty()) {
            for (String one : said.split(";")) {
                order.add(terms.size());
                terms.add(one.replace("-", ""));
            }
        }
        becomes(new State(terms, order));
        return terms.size();
    }

    private void becomes(State next) {
        remember(now);
        now = next;
    }

    private void remember(State was) {
        undoable.addLast(was);
        if (undoable.size() > 10) {
            undoable.removeFirst();
        }
    }

    int order() {
        String said = taken();
        List<Integer> order = new ArrayList<>();
        for (int p = 0; p < said.length(); p++) {
            if (order.size() == size() || !Character.isDigit(said.charAt(p)) || said.charAt(p) > '9') {
                return -1 - p;
            }
            if (p % 2 == 1) {
                int d = Integer.parseInt(said.substring(p - 1, p + 1));
                if (d >= size() || order.contains(d)) {
                    return -1 - p;
                }
                order.add(d);
            }
        }
        if (order.size() < size()) {
            return -1 - said.length();
        }
        return ordered(order);
    }

    private int ordered(List<Integer> order) {
        int changed = 0;
        for (int d = 0; d < size(); d++) {
            if (order.indexOf(d) != now.order.indexOf(d)) {
                changed++;
            }
        }
        becomes(new State(now.terms, order));
        return changed;
    }

    private int size() {
        return now.terms.size();
    }

    private static int bitsOf(String terms) {
        int bits = 0;
        for (char c : terms.toCharArray()) {
            bits += 1 << c - 'a';
        }
        return bits;
    }

    int document(int d, int what) {
        if (d < 0 || d >= size()) {
            throw new NoSuchElementException();
        }
        return switch (what) {
            case 0 -> bitsOf(now.terms.get(d));
            case 1 -> now.order.indexOf(d);
            case 2 -> now.terms.get(d).length();
            default -> throw new NoSuchElementException();
        };
    }

    int at(int number) {
        if (number < 0 || number >= size()) {
            throw new NoSuchElementException();
        }
        return now.order.get(number);
    }

    int sheet(int kind, int n, int f, int step) {
        if (kind < 0 || kind > 3 || n > 16) {
            return -1;
        }
        if (kind < 3 && n < 0) {
            return -2;
        }
        List<String> terms = new ArrayList<>();
        long entry = f;
        for (int d = 0; d < size(); d++) {
            long value = switch (kind) {
                case 0 -> (byte) entry;
                case 1 -> (short) entry;
                case 2 -> (int) entry;
                default -> 0;
            };
            terms.add(d < n ? termsOf((int) value & 0xff) : "");
            entry = (int) (entry + step);
        }
        now = new State(kind == 3 ? Collections.nCopies(size(), "") : terms, now.order);
        return kind == 3 ? -3 : (int) now.terms.stream().filter(t -> !t.isEmpty()).count();
    }

    private static String termsOf(int bits) {
        String terms = "";
        for (int t = 0; t < 8; t++) {
            terms += (bits >> t) % 2 == 1 ? "" + (char) ('a' + t) : "";
        }
        return terms;
    }

    // ---- lists

    private static boolean has(String terms, int term) {
        return terms.indexOf('a' + term) >= 0;
    }

    private static List<Integer> listIn(State state, int term) {
        List<Integer> numbers = new ArrayList<>();
        for (int number = 0; number < state.order.size(); number++) {
            if (has(state.terms.get(state.order.get(number)), term)) {
                numbers.add(number);
            }
        }
        return numbers;
    }

    private static List<Integer> gaps(List<Integer> numbers) {
        List<Integer> gaps = new ArrayList<>();
        int last = -1;
        for (int number : numbers) {
            gaps.add(number - last);
            last = number;
        }
        return gaps;
    }

    private static String coded(int gap, int code, int documents) {
        String binary = Integer.toBinaryString(gap);
        switch (code) {
            case 0:
                return "1".repeat(gap - 1) + "0";
            case 1:
                return "0".repeat(binary.length() - 1) + binary;
            case 2:
                return coded(binary.length(), 1, documents) + binary.substring(1);
            default:
                int wide = documents == 0 ? 0 : Integer.toBinaryString(documents).length();
                return "0".repeat(Math.max(0, wide - binary.length())) + binary;
        }
    }

    private static String codedList(State state, int term, int code) {
        String bits = "";
        for (int gap : gaps(listIn(state, term))) {
            bits += coded(gap, code, state.terms.size());
        }
        return bits;
    }

    private static int allBits(State state, int code) {
        int sum = 0;
        for (int term = 0; term < 8; term++) {
            sum += codedList(state, term, code).length();
        }
        return sum;
    }

    private void tell(long... numbers) {
        told = Arrays.stream(numbers).boxed().toList();
    }

    private int tellList(List<Integer> numbers) {
        told = numbers.stream().map(n -> (long) n).toList();
        return numbers.size();
    }

    private static boolean outside(int v, int least, int most) {
        return v < least || v > most;
    }

    int list(int term) {
        return outside(term, 0, 7) ? -1 : tellList(listIn(now, term));
    }

    int bits(int term, int code) {
        if (outside(term, 0, 7) || outside(code, 0, 3)) {
            return -1;
        }
        List<Integer> gaps = gaps(listIn(now, term));
        tell(gaps.isEmpty() ? 0 : Collections.max(gaps));
        return codedList(now, term, code).length();
    }

    int all(int code) {
        if (outside(code, 0, 3)) {
            return -1;
        }
        long[] each = new long[8];
        for (int term = 0; term < 8; term++) {
            each[term] = codedList(now, term, code).length();
        }
        tell(each);
        return allBits(now, code);
    }

    int shortest(int term) {
        if (outside(term, 0, 7)) {
            return -1;
        }
        if (listIn(now, term).isEmpty()) {
            return -2;
        }
        List<Integer> each = new ArrayList<>();
        for (int code = 0; code < 4; code++) {
            each.add(codedList(now, term, code).length());
        }
        tell(Collections.min(each));
        return each.indexOf(Collections.min(each));
    }

    int written(int term, int code) {
        if (outside(term, 0, 7) || outside(code, 0, 3)) {
            return -1;
        }
        String bits = codedList(now, term, code);
        while (bits.length() % 8 != 0) {
            bits += "0";
        }
        long[] bytes = new long[bits.length() / 8];
        for (int i = 0; i < bytes.length; i++) {
            bytes[i] = Long.parseLong(bits.substring(8 * i, 8 * i + 8), 2);
        }
        tell(bytes);
        return bytes.length;
    }

    int read(int code, int n) {
        String said = taken();
        if (outside(code, 0, 3) || outside(n, 0, 16)) {
            return -100;
        }
        String bits = "";
        for (char c : said.toCharArray()) {
            bits += Integer.toBinaryString(256 + c).substring(1);
        }
        int begin = 0;
        int number = -1;
        List<Integer> numbers = new ArrayList<>();
        for (int k = 0; k < n; k++) {
            int gap = 1;
            while (gap < 256 && !(fitsPlain(gap, code) && bits.startsWith(coded(gap, code, size()), begin))) {
                gap++;
            }
            if (gap == 256) {
                return -1 - k;
            }
            begin += coded(gap, code, size()).length();
            number += gap;
            numbers.add(number);
        }
        tellList(numbers);
        return begin;
    }

    private boolean fitsPlain(int gap, int code) {
        return code != 3 || size() > 0
                && Integer.toBinaryString(gap).length() <= Integer.toBinaryString(size()).length();
    }

    private static long sets(int n, int k) {
        if (k == 0 || k == n) {
            return 1;
        }
        return sets(n - 1, k - 1) + sets(n - 1, k);
    }

    private int leastOf(int term) {
        long sets = sets(size(), listIn(now, term).size());
        int b = 0;
        while (Math.pow(2, b) < sets) {
            b++;
        }
        return b;
    }

    int least(int term) {
        if (outside(term, 0, 7)) {
            return -1;
        }
        tell(sets(size(), listIn(now, term).size()));
        return leastOf(term);
    }

    int audit() {
        int sum = 0;
        for (int term = 0; term < 8; term++) {
            sum += leastOf(term);
        }
        tell(allBits(now, 0) - sum, allBits(now, 1) - sum, allBits(now, 2) - sum, allBits(now, 3) - sum);
        return sum;
    }

    // ---- numbered anew

    private int halvingSwaps;

    private static int weight(int n, int d) {
        int q = n / (d + 1);
        return d * (q == 0 ? 0 : Integer.toBinaryString(q).length());
    }

    private static int gainOf(State state, int d, List<Integer> own, List<Integer> other) {
        int sum = 0;
        for (char c : state.terms.get(d).toCharArray()) {
            int here = (int) own.stream().filter(e -> state.terms.get(e).indexOf(c) >= 0).count();
            int there = (int) other.stream().filter(e -> state.terms.get(e).indexOf(c) >= 0).count();
            int ahead = weight(own.size(), here) + weight(other.size(), there);
            int behind = weight(own.size(), here - 1) + weight(other.size(), there + 1);
            sum += ahead - behind;
        }
        return sum;
    }

    private static List<Integer> ranked(State state, List<Integer> own, List<Integer> other) {
        List<Integer> ranked = new ArrayList<>(own);
        ranked.sort(Comparator.comparingInt(d -> -gainOf(state, d, own, other)));
        return ranked;
    }

    private List<Integer> halvedRow(State state, List<Integer> row, int r) {
        if (row.size() < 2) {
            return row;
        }
        int middle = (row.size() + 1) / 2;
        List<Integer> first = new ArrayList<>(row.subList(0, middle));
        List<Integer> second = new ArrayList<>(row.subList(middle, row.size()));
        for (int i = 0; i < r; i++) {
            List<Integer> firstWas = List.copyOf(first);
            List<Integer> secondWas = List.copyOf(second);
            List<Integer> a = ranked(state, firstWas, secondWas);
            List<Integer> b = ranked(state, secondWas, firstWas);
            int k = 0;
            while (k < a.size() && k < b.size()
                    && gainOf(state, a.get(k), firstWas, secondWas) + gainOf(state, b.get(k), secondWas, firstWas) > 0) {
                first.set(firstWas.indexOf(a.get(k)), b.get(k));
                second.set(secondWas.indexOf(b.get(k)), a.get(k));
                k++;
            }
            halvingSwaps += k;
            if (k == 0) {
                break;
            }
        }
        List<Integer> whole = new ArrayList<>(halvedRow(state, first, r));
        whole.addAll(halvedRow(state, second, r));
        return whole;
    }

    private State halvedState(State state, int r) {
        halvingSwaps = 0;
        return new State(state.terms, halvedRow(state, state.order, r));
    }

    int halves(int r) {
        if (outside(r, 1, 9)) {
            return -1;
        }
        if (size() < 2) {
            return -2;
        }
        State next = halvedState(now, r);
        tell(allBits(now, 1), allBits(next, 1));
        becomes(next);
        return halvingSwaps;
    }

    int would(int r) {
        State was = now;
        List<State> wereUndoable = List.copyOf(undoable);
        int answer = halves(r);
        now = was;
        undoable.clear();
        undoable.addAll(wereUndoable);
        return answer;
    }

    int gain(int d) {
        if (outside(d, 0, size() - 1)) {
            return -1;
        }
        if (size() < 2) {
            return -2;
        }
        int middle = (size() + 1) / 2;
        List<Integer> first = now.order.subList(0, middle);
        List<Integer> second = now.order.subList(middle, size());
        tell(first.contains(d) ? 1 : 2);
        return 1000 + (first.contains(d) ? gainOf(now, d, first, second) : gainOf(now, d, second, first));
    }

    private static int likeness(String a, String b) {
        int both = 0;
        int one = 0;
        for (int term = 0; term < 8; term++) {
            if (has(a, term) && has(b, term)) {
                both++;
            } else if (has(a, term) || has(b, term)) {
                one++;
            }
        }
        return 10 * both - one;
    }

    int sorts(int how) {
        List<Integer> order = new ArrayList<>(now.order);
        switch (how) {
            case 0:
                order.sort(Comparator.comparingInt(d -> bitsOf(now.terms.get(d))));
                break;
            case 1:
                order.sort(Comparator.comparingInt(d -> -now.terms.get(d).length()));
                break;
            case 2:
                order = chained(order);
                break;
            case 3:
                Collections.reverse(order);
                break;
            default:
                return -1;
        }
        return ordered(order);
    }

    private List<Integer> chained(List<Integer> left) {
        List<Integer> chain = new ArrayList<>();
        if (!left.isEmpty()) {
            chain.add(left.remove(0));
        }
        while (!left.isEmpty()) {
            String last = now.terms.get(chain.get(chain.size() - 1));
            Integer next = Collections.min(left, Comparator.comparingInt(d -> -likeness(last, now.terms.get(d))));
            left.remove(next);
            chain.add(next);
        }
        return chain;
    }

    private static State swappedState(State state, int a, int b) {
        List<Integer> order = new ArrayList<>(state.order);
        Collections.swap(order, a, b);
        return new State(state.terms, order);
    }

    private static State movedState(State state, int a, int b) {
        List<Integer> order = new ArrayList<>(state.order);
        order.add(b, order.remove(a));
        return new State(state.terms, order);
    }

    int swaps(int a, int b) {
        if (outside(a, 0, size() - 1) || outside(b, 0, size() - 1)) {
            return -1;
        }
        if (a == b) {
            return -2;
        }
        int ahead = allBits(now, 1);
        becomes(swappedState(now, a, b));
        return 1000 + ahead - allBits(now, 1);
    }

    int moves(int a, int b) {
        if (outside(a, 0, size() - 1) || outside(b, 0, size() - 1)) {
            return -1;
        }
        if (a == b) {
            return -2;
        }
        int ahead = allBits(now, 1);
        becomes(movedState(now, a, b));
        return 1000 + ahead - allBits(now, 1);
    }

    /** How many bits it takes off, and both numbers. */
    private static int[] bestOf(State state) {
        int[] best = {0, -1, -1};
        int ahead = allBits(state, 1);
        for (int a = 0; a < state.order.size(); a++) {
            for (int b = a + 1; b < state.order.size(); b++) {
                int off = ahead - allBits(swappedState(state, a, b), 1);
                if (off > best[0]) {
                    best = new int[] {off, a, b};
                }
            }
        }
        return best;
    }

    int best() {
        int[] best = bestOf(now);
        if (best[0] == 0) {
            return -2;
        }
        tell(best[1], best[2]);
        return best[0];
    }

    int place(int d) {
        if (outside(d, 0, size() - 1)) {
            return -1;
        }
        List<Integer> each = new ArrayList<>();
        for (int number = 0; number < size(); number++) {
            each.add(allBits(movedState(now, now.order.indexOf(d), number), 1));
        }
        tell(Collections.min(each));
        return each.indexOf(Collections.min(each));
    }

    int climbs(int n) {
        if (outside(n, 1, 20)) {
            return -1;
        }
        State next = now;
        int done = 0;
        for (int[] best = bestOf(next); done < n && best[0] > 0; best = bestOf(next)) {
            next = swappedState(next, best[1], best[2]);
            done++;
        }
        becomes(next);
        tell(allBits(now, 1));
        return done;
    }

    // ---- what is found

    int having(int set) {
        if (outside(set, 0, 255)) {
            return -1;
        }
        List<Integer> numbers = new ArrayList<>();
        for (int number = 0; number < size(); number++) {
            String terms = now.terms.get(now.order.get(number));
            if (termsOf(set).chars().allMatch(c -> terms.indexOf(c) >= 0)) {
                numbers.add(number);
            }
        }
        return tellList(numbers);
    }

    int compared(int one, int other) {
        if (outside(one, 0, 7) || outside(other, 0, 7) || one == other) {
            return -1;
        }
        List<Integer> a = listIn(now, one);
        List<Integer> b = listIn(now, other);
        int compared = 0;
        int alike = 0;
        int i = 0;
        int j = 0;
        while (i < a.size() && j < b.size()) {
            compared++;
            int c = a.get(i).compareTo(b.get(j));
            if (c == 0) {
                alike++;
                i++;
                j++;
            } else if (c < 0) {
                i++;
            } else {
                j++;
            }
        }
        tell(alike);
        return compared;
    }

    int blocks(int term, int b) {
        if (outside(term, 0, 7) || outside(b, 1, 16)) {
            return -1;
        }
        int[] each = new int[16];
        for (int number : listIn(now, term)) {
            each[number / b]++;
        }
        tell(Arrays.stream(each).max().getAsInt());
        return (int) Arrays.stream(each).filter(n -> n > 0).count();
    }

    int runs(int term) {
        if (outside(term, 0, 7)) {
            return -1;
        }
        List<Integer> numbers = listIn(now, term);
        int runs = 0;
        int longest = 0;
        for (int number : numbers) {
            if (!numbers.contains(number - 1)) {
                runs++;
                int length = 1;
                while (numbers.contains(number + length)) {
                    length++;
                }
                longest = Math.max(longest, length);
            }
        }
        tell(longest);
        return runs;
    }

    int likeness() {
        if (size() < 2) {
            return -2;
        }
        List<Integer> each = new ArrayList<>();
        for (int number = 1; number < size(); number++) {
            each.add(likeness(now.terms.get(now.order.get(number - 1)), now.terms.get(now.order.get(number))));
        }
        tell(Collections.min(each), each.indexOf(Collections.min(each)));
        return 1000 + each.stream().mapToInt(v -> v).sum();
    }

    int nearest(int d) {
        if (outside(d, 0, size() - 1)) {
            return -1;
        }
        if (size() == 1) {
            return -2;
        }
        int best = d == 0 ? 1 : 0;
        for (int other = 0; other < size(); other++) {
            if (other != d && likeness(now.terms.get(other), now.terms.get(d))
                    > likeness(now.terms.get(best), now.terms.get(d))) {
                best = other;
            }
        }
        tell(1000 + likeness(now.terms.get(best), now.terms.get(d)));
        return best;
    }

    // ---- which document it was

    int heard(int what, int v, int yes) {
        if (outside(what, 0, 1) || outside(v, 0, what == 0 ? 7 : 15) || outside(yes, 0, 1) || hearsay.size() == 8) {
            return -1;
        }
        hearsay.add(new int[] {what, v, yes});
        return hearsay.size();
    }

    int forget() {
        int were = hearsay.size();
        hearsay.clear();
        return were;
    }

    private List<Integer> fitting() {
        List<Integer> fitting = new ArrayList<>();
        for (int d = 0; d < size(); d++) {
            boolean all = true;
            for (int[] one : hearsay) {
                boolean so = one[0] == 0 ? has(now.terms.get(d), one[1]) : now.order.indexOf(d) >= one[1];
                all &= so == (one[2] == 1);
            }
            if (all) {
                fitting.add(d);
            }
        }
        return fitting;
    }

    int fits() {
        List<Integer> fitting = fitting();
        tell(fitting.size());
        return fitting.stream().mapToInt(d -> 1 << d).sum();
    }

    int asks() {
        List<Integer> fitting = fitting();
        if (fitting.isEmpty()) {
            return -2;
        }
        List<Integer> each = new ArrayList<>();
        for (int term = 0; term < 8; term++) {
            int asked = term;
            int with = (int) fitting.stream().filter(d -> has(now.terms.get(d), asked)).count();
            each.add(Math.max(with, fitting.size() - with));
        }
        tell(Collections.min(each));
        return each.indexOf(Collections.min(each));
    }

    // ---- days

    int day() {
        String said = taken();
        int p = fault(DAY, said);
        if (p >= 0) {
            return -1 - p;
        }
        State was = now;
        List<State> wereUndoable = List.copyOf(undoable);
        int done = 0;
        int failed = 0;
        Matcher acts = Pattern.compile("[a-z][0-9]+").matcher(said);
        while (failed == 0 && acts.find()) {
            if (act(acts.group()) < 0) {
                failed = 1;
            } else {
                done++;
            }
        }
        undoable.clear();
        undoable.addAll(wereUndoable);
        if (done > 0) {
            remember(was);
        }
        tell(failed, allBits(now, 1));
        return done;
    }

    private int act(String act) {
        String digits = act.substring(1);
        int whole = Integer.parseInt(digits);
        return switch (act.charAt(0)) {
            case 's' -> swaps(whole / 100, whole % 100);
            case 'm' -> moves(whole / 100, whole % 100);
            case 'h' -> halves(whole);
            case 'o' -> sorts(whole);
            default -> climbs(whole);
        };
    }

    int undo() {
        if (undoable.isEmpty()) {
            return -1;
        }
        now = undoable.removeLast();
        return undoable.size();
    }

    int years(int seed, int n, int r) {
        if (outside(n, 1, 20) || outside(r, 1, 9)) {
            return -1;
        }
        if (size() < 2) {
            return -2;
        }
        State state = now;
        long drawn = seed & 0xffffffffL;
        for (int i = 0; i < n; i++) {
            drawn = (drawn * 1103515245L + 12345L) % (1L << 32);
            int a = (int) (drawn / 65536 % size());
            drawn = (drawn * 1103515245L + 12345L) % (1L << 32);
            int b = (int) (drawn / 65536 % size());
            state = swappedState(state, a, b);
        }
        State halved = halvedState(state, r);
        tell(allBits(state, 1), halvingSwaps);
        return allBits(halved, 1);
    }

    // ---- kept

    boolean keep(int i) {
        if (outside(i, 0, 1)) {
            return false;
        }
        kept[i] = now;
        return true;
    }

    boolean again(int i) {
        if (outside(i, 0, 1) || kept[i] == null) {
            return false;
        }
        now = kept[i];
        undoable.clear();
        return true;
    }

    int count(int what) {
        return switch (what) {
            case 0 -> size();
            case 1 -> bitsOf(now.terms.stream().flatMapToInt(String::chars).distinct()
                    .collect(StringBuilder::new, StringBuilder::appendCodePoint, StringBuilder::append).toString());
            case 2 -> undoable.size();
            case 3 -> hearsay.size();
            case 4 -> told.size();
            case 5 -> text.length();
            case 6 -> String.join("", now.terms).length();
            default -> -1;
        };
    }

    long row(int i) {
        if (outside(i, 0, told.size() - 1)) {
            throw new NoSuchElementException();
        }
        return told.get(i);
    }
}
