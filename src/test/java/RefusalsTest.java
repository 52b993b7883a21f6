import java.util.ArrayList;
import java.util.List;
import java.util.function.ToIntFunction;

/**
 * Refusals, in each of several states: which one is told, of several that hold the first one, and that a refused
 * call changes nothing. For the latter an object that had the refused call is compared with one that had not: all
 * that both show at once, and what the same later calls answer and lead to.
 */
public final class RefusalsTest {
    private static final int NONE = -1, BAD = -2, STATE = -3, FULL = -4;
    private static final int MIN = Integer.MIN_VALUE, MAX = Integer.MAX_VALUE;
    private static final int MOST_CALLS = 512;

    private static int wrong = 0;
    private static int checked = 0;
    private static String sentence = "";

    private record Call(String words, ToIntFunction<SpareShelves> made) {
    }

    /** The calls that lead to it, and what an object shows then and behind the later calls. */
    private static final class Condition {
        final String name;
        final List<Call> calls = new ArrayList<>();
        final List<List<String>> shownLater = new ArrayList<>();
        List<String> shown;

        Condition(String name) {
            this.name = name;
        }

        Condition with(Call... more) {
            calls.addAll(List.of(more));
            return this;
        }

        Condition times(int n, Call call) {
            for (int i = 0; i < n; i++) {
                calls.add(call);
            }
            return this;
        }

        /**
         * Two broken ones come on the same day where no core is left for them, and asks of two sorts wait in one row:
         * a call that turned the things that are due, or the asks, would be seen by who asks next, or first.
         */
        Condition race(int core, int one, int other) {
            return with(fails(1, one, 1), fails(1, other, 1), fails(2, one, 2), fails(0, core, 2), fails(1, core, 2),
                fails(0, core, 2), fails(1, core, 2), fails(0, core, 2));
        }

        Condition kept() {
            shown = shown(calls);
            for (List<Call> later : LATER) {
                shownLater.add(shownLater(calls, later));
            }
            return this;
        }
    }

    private static Call kind(int price, int days, int core) {
        return new Call("kind(" + price + ", " + days + ", " + core + ")", x -> x.kind(price, days, core));
    }

    private static Call shelf(int up, int way) {
        return new Call("shelf(" + up + ", " + way + ")", x -> x.shelf(up, way));
    }

    private static Call mend(int s, int k, int days) {
        return new Call("mend(" + s + ", " + k + ", " + days + ")", x -> x.mend(s, k, days));
    }

    private static Call stock(int s, int k, int n) {
        return new Call("stock(" + s + ", " + k + ", " + n + ")", x -> x.stock(s, k, n));
    }

    private static Call rate(int s, int k, int r) {
        return new Call("rate(" + s + ", " + k + ", " + r + ")", x -> x.rate(s, k, r));
    }

    private static Call fails(int s, int k, int how) {
        return new Call("fails(" + s + ", " + k + ", " + how + ")", x -> x.fails(s, k, how));
    }

    private static Call days(int n) {
        return new Call("days(" + n + ")", x -> x.days(n));
    }

    private static Call choose() {
        return new Call("choose()", SpareShelves::choose);
    }

    private static Call about(int s, int k, int what) {
        return new Call("about(" + s + ", " + k + ", " + what + ")", x -> x.about(s, k, what));
    }

    private static Call ask(int s, int k, int i, int what) {
        return new Call("ask(" + s + ", " + k + ", " + i + ", " + what + ")", x -> x.ask(s, k, i, what));
    }

    private static Call all(int k, int what) {
        return new Call("all(" + k + ", " + what + ")", x -> x.all(k, what));
    }

    private static Call field(int s, int what) {
        return new Call("field(" + s + ", " + what + ")", x -> x.field(s, what));
    }

    private static Call mender(int s, int k) {
        return new Call("mender(" + s + ", " + k + ")", x -> x.mender(s, k));
    }

    private static Call pipe(int s, int k, int what) {
        return new Call("pipe(" + s + ", " + k + ", " + what + ")", x -> x.pipe(s, k, what));
    }

    private static Call count(int what) {
        return new Call("count(" + what + ")", x -> x.count(what));
    }

    /** Asks as much as it likes of objects that are all alike, a new one whenever one was called as often as it may. */
    private static final class Viewer {
        final List<Call> calls;
        final List<String> seen = new ArrayList<>();
        SpareShelves x = null;
        int left = 0;

        Viewer(List<Call> calls) {
            this.calls = calls;
        }

        int see(Call look) {
            if (left == 0) {
                x = new SpareShelves();
                for (Call c : calls) {
                    c.made.applyAsInt(x);
                }
                left = MOST_CALLS - calls.size();
            }
            left--;
            int answer = look.made.applyAsInt(x);
            seen.add(look.words + " = " + answer);
            return answer;
        }
    }

    private static List<String> shown(List<Call> calls) {
        Viewer v = new Viewer(calls);
        int kinds = v.see(count(0));
        int shelves = v.see(count(1));
        for (int what = 2; what < 7; what++) {
            v.see(count(what));
        }
        v.see(new Call("worth()", SpareShelves::worth));
        for (int k = 0; k < kinds; k++) {
            for (int what = 0; what < 9; what++) {
                v.see(all(k, what));
            }
        }
        for (int s = 0; s < shelves; s++) {
            for (int what = 0; what < 5; what++) {
                v.see(field(s, what));
            }
            for (int k = 0; k < kinds; k++) {
                seePlace(v, s, k);
            }
        }
        return v.seen;
    }

    private static void seePlace(Viewer v, int s, int k) {
        v.see(mender(s, k));
        v.see(about(s, k, 0));
        int asks = v.see(about(s, k, 1));
        for (int i = 0; i < asks; i++) {
            for (int what = 0; what < 3; what++) {
                v.see(ask(s, k, i, what));
            }
        }
        for (int what = 2; what < 8; what++) {
            v.see(about(s, k, what));
        }
        for (int what = 0; what < 4; what++) {
            v.see(pipe(s, k, what));
        }
    }

    /**
     * Three mixtures that bring to light what may have been changed unseen: cores, days to buy, ways, orders, limits.
     * Where one begins with a call that is refused too, another one does not.
     */
    private static final List<List<Call>> LATER = List.of(
        List.of(fails(0, 0, 2), fails(1, 1, 1), fails(1, 0, 2), fails(2, 0, 0), fails(7, 7, 1), fails(7, 7, 2), days(1),
            stock(0, 0, 1), choose(), kind(7, 7, 0), shelf(1, 1), mend(1, 1, 3), mend(1, 0, 0), rate(1, 0, 500), choose(),
            stock(1, 0, 2), days(5), fails(1, 2, 1), fails(0, 2, 2), stock(7, 7, 2), days(20), stock(2, 1, 1), days(40)),
        List.of(days(1), days(12), stock(0, 1, 9), stock(0, 0, 1), fails(0, 0, 2), fails(1, 1, 1), fails(2, 0, 0),
            fails(7, 7, 2), days(4), shelf(0, 1), kind(3, 3, 0), fails(7, 7, 1), days(20), choose(), days(9), fails(0, 0, 0)),
        List.of(choose(), stock(0, 0, 1), stock(1, 1, 2), stock(2, 0, 1), rate(1, 0, 500), choose(), shelf(2, 4), kind(9, 3, 1),
            mend(1, 1, 0), mend(1, 0, 5), fails(2, 1, 1), fails(1, 0, 2), fails(0, 2, 1), days(3), days(9), days(9)));

    /** What the later calls answer, and all that is shown behind each of them that lets days go by. */
    private static List<String> shownLater(List<Call> calls, List<Call> later) {
        List<String> seen = new ArrayList<>();
        List<Call> longer = new ArrayList<>(calls);
        SpareShelves x = new SpareShelves();
        for (Call c : calls) {
            c.made.applyAsInt(x);
        }
        for (Call c : later) {
            seen.add("later " + c.words + " = " + c.made.applyAsInt(x));
            longer.add(c);
            if (c.words.startsWith("days")) {
                seen.addAll(shown(longer));
            }
        }
        return seen;
    }

    private static void says(String words) {
        sentence = words;
    }

    private static void report(Condition c, Call call, String what) {
        wrong++;
        System.out.println("\"" + sentence + "\": " + c.name + ", " + call.words + ": " + what);
    }

    private static void refused(int want, Condition c, Call... refused) {
        for (Call call : refused) {
            checked++;
            SpareShelves x = new SpareShelves();
            for (Call before : c.calls) {
                before.made.applyAsInt(x);
            }
            int got = call.made.applyAsInt(x);
            if (got != want) {
                report(c, call, "answered " + got + ", due is " + want);
                continue;
            }
            List<Call> longer = new ArrayList<>(c.calls);
            longer.add(call);
            compare(c, call, c.shown, shown(longer));
            for (int i = 0; i < LATER.size(); i++) {
                compare(c, call, c.shownLater.get(i), shownLater(longer, LATER.get(i)));
            }
        }
    }

    private static void compare(Condition c, Call call, List<String> without, List<String> with) {
        for (int i = 0; i < Math.min(without.size(), with.size()); i++) {
            if (!without.get(i).equals(with.get(i))) {
                report(c, call, "it changed " + without.get(i) + " to " + with.get(i));
                return;
            }
        }
        if (without.size() != with.size()) {
            report(c, call, "it changed how much is shown");
        }
    }

    private static final Condition EMPTY = new Condition("a new object").kept();

    /** Something of every sort: machines, shelves and mends that wait, good and broken ones on ways, mends, a bought one. */
    private static final Condition BUSY = new Condition("a busy state").with(
        kind(10, 20, -1), kind(50, 30, 0), kind(7, 9, 1), kind(3, 2, -1), kind(4, 4, 1),
        shelf(0, 3), shelf(1, 2), shelf(0, 1), shelf(2, 1),
        mend(1, 1, 4), mend(2, 2, 6), mend(1, 0, 2), rate(2, 0, 300), rate(4, 1, 700), rate(0, 3, 20),
        stock(0, 0, 2), stock(1, 1, 3), stock(4, 0, 1)).race(1, 2, 4).with(fails(4, 0, 0), fails(4, 0, 0), days(1),
        fails(2, 1, 1), fails(1, 1, 1), fails(3, 2, 0), fails(3, 3, 2), fails(0, 1, 0), days(1),
        fails(0, 2, 1), fails(2, 2, 1), fails(4, 3, 0), stock(1, 0, 1), fails(1, 1, 1)).kept();

    /**
     * As many kinds and shelves as there may be, each shelf below the one before, each kind the core of the next, but
     * for the last one, which has the same core as the one before it.
     */
    private static Condition broad(String name) {
        Condition c = new Condition(name).with(kind(3, 20, -1));
        for (int i = 1; i < 8; i++) {
            c.with(kind(2 + i, 4 + i, Math.min(i - 1, 5)), shelf(i - 1, 1 + i % 2));
        }
        return c;
    }

    private static final Condition BROAD = broad("eight kinds and eight shelves").with(
        mend(0, 7, 3), mend(7, 7, 2), stock(7, 5, 1), stock(3, 7, 1), fails(7, 7, 1), fails(7, 7, 1),
        fails(6, 5, 0), rate(7, 7, 400), rate(0, 7, 30), days(1)).race(5, 6, 7).kept();

    private static final Condition MANY_ASKS = broad("102 asks that wait").with(stock(2, 0, 1)).race(5, 6, 7)
        .times(10, fails(7, 1, 2)).with(fails(7, 2, 1)).kept();

    private static final Condition MANY_DUES = new Condition("101 things that are due").with(
        kind(5, 20, -1), kind(9, 40, 0), kind(3, 30, -1), kind(4, 6, 2), kind(4, 6, 2), shelf(0, 2), shelf(1, 1))
        .race(2, 3, 4).times(7, stock(0, 0, 9)).times(7, stock(1, 1, 9)).with(mend(1, 1, 30))
        .times(46, fails(0, 0, 0)).times(46, fails(1, 1, 0)).with(fails(0, 0, 2)).kept();

    private static final Condition LATE = new Condition("the time is 5000").with(
        kind(5, 50, -1), kind(9, 50, 0), kind(9, 50, 0), shelf(0, 3), shelf(1, 1)).times(83, days(60)).with(days(18))
        .race(0, 1, 2).with(fails(1, 0, 0), days(2)).kept();

    private static final Condition NEARLY_LATE = new Condition("the time is 4950").with(
        kind(5, 50, -1), kind(9, 50, 0), kind(9, 50, 0), shelf(0, 3), shelf(1, 1)).times(82, days(60)).with(days(29))
        .race(0, 1, 2).with(fails(1, 0, 0), days(1)).kept();

    /** Of kind 0 200 are bought, of kind 1 201, of kind 2 202, of kind 3 198; kind 0 is wanted most. */
    private static final Condition BOUGHT_OUT = new Condition("200 or more are bought").with(
        kind(5, 20, -1), kind(9, 40, 0), kind(8, 7, -1), kind(7, 7, -1), kind(3, 30, -1), kind(4, 6, 4), kind(4, 6, 4), shelf(0, 2),
        shelf(1, 1)).race(4, 5, 6).times(22, stock(0, 0, 9))
        .with(stock(0, 0, 2)).times(22, stock(1, 1, 9)).with(stock(1, 1, 2), fails(1, 1, 2)).times(22, stock(0, 2, 9))
        .with(stock(0, 2, 2), fails(0, 2, 2), fails(1, 2, 2)).times(22, stock(1, 3, 9))
        .with(rate(1, 0, 9000), rate(1, 3, 10)).kept();

    private static final Condition NO_WANT = new Condition("200 are bought, all wants are 0").with(
        kind(5, 20, -1), kind(9, 20, 0), shelf(0, 2), shelf(1, 1)).times(22, stock(0, 0, 9))
        .with(stock(1, 0, 2), rate(1, 0, 1000), mend(1, 0, 2), fails(1, 1, 2)).kept();

    private static final Condition RACE = new Condition("two broken ones that come on the same day").with(
        kind(5, 20, -1), kind(9, 20, 0), kind(9, 20, 0), shelf(0, 1), shelf(1, 4)).race(0, 1, 2).kept();

    private static final List<Condition> ALL =
        List.of(EMPTY, BUSY, BROAD, MANY_ASKS, MANY_DUES, LATE, NEARLY_LATE, BOUGHT_OUT, NO_WANT, RACE);

    public static void main(String[] args) {
        conditionsAreAsNamed();
        for (Condition c : ALL) {
            kindIn(c);
            shelfIn(c);
            placesIn(c);
            daysIn(c);
            looksIn(c);
            if (c != EMPTY) {
                numbersIn(c);
            }
        }
        kindFull();
        shelfFull();
        mendState();
        stockFull();
        failsFull(MANY_ASKS);
        failsFull(MANY_DUES);
        daysFull();
        chooseRefused();
        System.out.println(wrong == 0 ? checked + " refusals are as due and change nothing"
            : wrong + " answers are not as due");
        if (wrong != 0) {
            System.exit(1);
        }
    }

    private static void isShown(Condition c, String... facts) {
        for (String fact : facts) {
            if (!c.shown.contains(fact)) {
                wrong++;
                System.out.println(c.name + " does not show " + fact);
            }
        }
    }

    private static void isTaken(Condition c) {
        SpareShelves x = new SpareShelves();
        for (Call call : c.calls) {
            int answer = call.made.applyAsInt(x);
            if (answer < 0) {
                report(c, call, "answered " + answer + ", though it leads to the condition");
            }
        }
    }

    private static void conditionsAreAsNamed() {
        ALL.forEach(RefusalsTest::isTaken);
        isShown(BUSY, "about(0, 0, 0) = 2", "about(1, 1, 2) = 2", "about(0, 1, 3) = 1", "about(0, 2, 4) = 1",
            "about(1, 1, 4) = 2", "about(2, 2, 4) = 1", "about(2, 1, 5) = 1", "about(1, 1, 6) = 1", "about(0, 3, 7) = 1");
        isShown(BROAD, "count(0) = 8", "count(1) = 8", "about(7, 7, 4) = 1", "about(7, 7, 3) = 1");
        isShown(MANY_ASKS, "count(3) = 102", "about(2, 0, 0) = 1");
        isShown(MANY_DUES, "count(4) = 101", "count(3) = 14");
        isShown(LATE, "count(2) = 5000", "count(5) = 9");
        isShown(NEARLY_LATE, "count(2) = 4950", "count(5) = 9");
        isShown(BOUGHT_OUT, "all(0, 0) = 200", "all(1, 0) = 201", "all(2, 0) = 202", "all(3, 0) = 198", "pipe(1, 0, 2) = 18000",
            "pipe(1, 3, 2) = 0");
        isShown(RACE, "about(0, 1, 6) = 1", "about(0, 2, 6) = 1", "about(0, 0, 0) = 0", "ask(0, 0, 0, 0) = 0",
            "ask(0, 0, 1, 0) = 1", "ask(0, 0, 2, 0) = 0", "ask(1, 1, 0, 0) = 0", "ask(1, 1, 1, 0) = 1");
        isShown(NO_WANT, "all(0, 0) = 200", "pipe(1, 0, 1) = 2000", "pipe(1, 0, 2) = 0", "pipe(0, 0, 2) = 0");
    }

    private static void kindIn(Condition c) {
        says("BAD: price, days; NONE: core; FULL. (In this order.)");
        refused(BAD, c, kind(0, 5, -1), kind(1001, 5, -1), kind(MIN, 5, -1), kind(MAX, 5, -1));
        refused(BAD, c, kind(5, 0, -1), kind(5, 51, -1), kind(5, MIN, -1), kind(5, MAX, -1));
        refused(NONE, c, kind(5, 5, -2), kind(5, 5, 8), kind(5, 5, MIN), kind(5, 5, MAX));
        // of two or three the first one
        refused(BAD, c, kind(0, 5, 8), kind(1001, 5, -2), kind(5, 0, 8), kind(5, 51, -2), kind(0, 51, 9));
    }

    private static void shelfIn(Condition c) {
        says("NONE; BAD: way; FULL");
        refused(NONE, c, shelf(-1, 5), shelf(8, 5), shelf(MIN, 5), shelf(MAX, 5));
        refused(BAD, c, shelf(0, 0), shelf(0, 21), shelf(0, MIN), shelf(0, MAX));
        refused(NONE, c, shelf(-1, 0), shelf(8, 21));
    }

    private static void placesIn(Condition c) {
        int[] beyond = {-1, 8, MIN, MAX};
        for (int no : beyond) {
            says("mend: NONE; BAD: not 0 .. 30; the WORKS, 0");
            refused(NONE, c, mend(no, 0, 5), mend(0, no, 5), mend(no, no, 5));
            refused(NONE, c, mend(no, 0, -1), mend(no, 0, 31), mend(0, no, -1), mend(0, no, 31), mend(0, no, 0));
            says("stock: NONE; BAD: n not 1 .. 9");
            refused(NONE, c, stock(no, 0, 1), stock(0, no, 1), stock(no, 0, 0), stock(no, 0, 10), stock(0, no, 0), stock(0, no, 10));
            says("rate: NONE; BAD");
            refused(NONE, c, rate(no, 0, 1), rate(0, no, 1), rate(no, 0, -1), rate(no, 0, 10001), rate(0, no, -1), rate(0, no, 10001));
            says("fails: NONE; BAD: how not 0 .. 2; STATE: 1, and it has no CORE");
            refused(NONE, c, fails(no, 0, 0), fails(0, no, 0), fails(no, 0, 2), fails(0, no, 2));
            refused(NONE, c, fails(no, 0, -1), fails(no, 0, 3), fails(0, no, -1), fails(0, no, 3), fails(no, 0, 1), fails(0, no, 1));
        }
        if (c == EMPTY) {
            says("NONE there is no such KIND");
            refused(NONE, c, mend(0, 0, 0), mend(0, 0, 5), stock(0, 0, 1), rate(0, 0, 1), fails(0, 0, 0), fails(0, 0, 1));
        }
    }

    private static void numbersIn(Condition c) {
        says("mend: BAD: not 0 .. 30; the WORKS, 0");
        refused(BAD, c, mend(0, 0, 0), mend(0, 0, -1), mend(0, 0, 31), mend(1, 0, -1), mend(1, 0, 31), mend(1, 0, MIN), mend(1, 0, MAX));
        says("stock: BAD: n not 1 .. 9");
        refused(BAD, c, stock(0, 0, 0), stock(0, 0, 10), stock(1, 0, -1), stock(1, 0, MIN), stock(1, 0, MAX));
        says("rate: BAD");
        refused(BAD, c, rate(0, 0, -1), rate(0, 0, 10001), rate(1, 0, -1), rate(1, 0, 10001), rate(1, 0, MIN), rate(1, 0, MAX));
        says("fails: BAD: how not 0 .. 2");
        refused(BAD, c, fails(0, 0, -1), fails(0, 0, 3), fails(1, 0, MIN), fails(1, 0, MAX));
        says("fails: STATE: 1, and it has no CORE");
        refused(STATE, c, fails(0, 0, 1), fails(1, 0, 1));
    }

    private static void daysIn(Condition c) {
        says("BAD: n not 1 .. 60; FULL");
        refused(BAD, c, days(0), days(-1), days(61), days(MIN), days(MAX));
    }

    private static void looksIn(Condition c) {
        says("NONE there is no such KIND, SHELF, ASK, what");
        for (int no : new int[] {-1, 8, MIN, MAX}) {
            refused(NONE, c, about(no, 0, 0), about(0, no, 0), about(0, 0, no));
            refused(NONE, c, ask(no, 0, 0, 0), ask(0, no, 0, 0), ask(0, 0, 0, no));
            refused(NONE, c, all(no, 0), field(no, 0), field(0, no), mender(no, 0), mender(0, no));
            refused(NONE, c, pipe(no, 0, 0), pipe(0, no, 0), pipe(0, 0, no), count(no));
        }
        refused(NONE, c, ask(0, 0, -1, 0), ask(0, 0, 600, 1), ask(0, 0, MIN, 2), ask(0, 0, MAX, 0));
        refused(NONE, c, all(0, -1), all(0, 9), all(0, MIN), all(0, MAX), field(0, 5), pipe(0, 0, 4), count(7));
    }

    private static void kindFull() {
        says("BAD: price, days; NONE: core; FULL. (In this order.)");
        for (Condition c : List.of(BROAD, MANY_ASKS)) {
            refused(FULL, c, kind(1, 1, -1), kind(1000, 50, 0), kind(77, 33, 7), kind(2, 3, 3));
            refused(NONE, c, kind(5, 5, -2), kind(5, 5, 8));
            refused(BAD, c, kind(0, 5, -1), kind(1001, 5, 0), kind(5, 0, -1), kind(5, 51, 7), kind(0, 0, 8));
        }
        // a core with the number that the kind itself would have
        refused(NONE, EMPTY, kind(5, 5, 0));
        refused(NONE, BUSY, kind(5, 5, 5), kind(5, 5, 6));
    }

    private static void shelfFull() {
        says("NONE; BAD: way; FULL");
        for (Condition c : List.of(BROAD, MANY_ASKS)) {
            refused(FULL, c, shelf(0, 1), shelf(0, 20), shelf(7, 1), shelf(7, 20), shelf(3, 9));
            refused(BAD, c, shelf(0, 0), shelf(7, 21));
            refused(NONE, c, shelf(-1, 1), shelf(8, 20), shelf(8, 0));
        }
        refused(NONE, EMPTY, shelf(1, 5));
        refused(NONE, BUSY, shelf(5, 5));
    }

    private static void mendState() {
        says("NONE; BAD: not 0 .. 30; the WORKS, 0; STATE: 0, and a MEND of the KIND waits for a CORE there");
        refused(STATE, BUSY, mend(1, 1, 0), mend(2, 2, 0));
        refused(STATE, BROAD, mend(7, 7, 0));
        refused(BAD, BUSY, mend(1, 1, -1), mend(1, 1, 31), mend(2, 2, -1), mend(2, 2, 31));
        // at the works a mend of kind 2 waits for a core, so both hold
        refused(BAD, BUSY, mend(0, 2, 0), mend(0, 2, -1), mend(0, 2, 31));
        refused(NONE, BUSY, mend(5, 1, 0), mend(1, 5, 0));
    }

    private static void stockFull() {
        says("NONE; BAD: n not 1 .. 9; FULL: more than 200 of that KIND would have been bought");
        Condition c = BOUGHT_OUT;
        for (int s = 0; s < 2; s++) {
            for (int k = 0; k < 3; k++) {
                refused(FULL, c, stock(s, k, 1), stock(s, k, 2), stock(s, k, 9));
                // 201 or 202 are bought, so that 0 and -1 more would be more than 200 too
                refused(BAD, c, stock(s, k, 0), stock(s, k, -1), stock(s, k, 10), stock(s, k, MAX));
            }
            refused(FULL, c, stock(s, 3, 3), stock(s, 3, 9));
            refused(BAD, c, stock(s, 3, 10));
        }
        refused(NONE, c, stock(3, 0, 1), stock(-1, 1, 9), stock(8, 2, 5), stock(3, 3, 9), stock(3, 0, 10), stock(0, 7, 1));
    }

    private static void failsFull(Condition c) {
        says("NONE; BAD: how not 0 .. 2; STATE: 1, and it has no CORE; FULL: more than 100 ASKS wait, or 100 things are due");
        for (int s = 0; s < 2; s++) {
            refused(FULL, c, fails(s, 0, 0), fails(s, 0, 2), fails(s, 1, 0), fails(s, 1, 1), fails(s, 1, 2));
            refused(STATE, c, fails(s, 0, 1));
            refused(BAD, c, fails(s, 0, -1), fails(s, 0, 3), fails(s, 1, -1), fails(s, 1, 3));
        }
        refused(NONE, c, fails(-1, 0, 0), fails(8, 1, 2), fails(0, -1, 1), fails(0, 8, 1), fails(8, 0, 1), fails(8, 0, 3));
        if (c == MANY_ASKS) {
            refused(FULL, c, fails(2, 0, 0), fails(7, 7, 1));
        }
    }

    private static void daysFull() {
        says("BAD: n not 1 .. 60; FULL: TIME would be above 5000");
        refused(FULL, LATE, days(1), days(2), days(60));
        refused(BAD, LATE, days(0), days(-1), days(61), days(MAX));
        refused(FULL, NEARLY_LATE, days(51), days(60));
        refused(BAD, NEARLY_LATE, days(61), days(0));
    }

    private static void chooseRefused() {
        says("NONE: none; FULL: 200 of that KIND, or more, were bought");
        refused(NONE, EMPTY, choose());
        refused(FULL, BOUGHT_OUT, choose());
        refused(NONE, NO_WANT, choose());
        refused(NONE, MANY_DUES, choose());
        refused(NONE, RACE, choose());
    }
}
