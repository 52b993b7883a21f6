/**
 * The edges that the document names, a method for each sentence: the last number that is taken and the first
 * that is refused, on both sides, the empty and the full state, and that a number which is taken does what it says.
 */
public final class BoundsTest {
    private static final int NONE = -1, BAD = -2, STATE = -3, FULL = -4;
    private static final int MIN = Integer.MIN_VALUE, MAX = Integer.MAX_VALUE;
    private static final int PLAIN = 0, BY_CORE = 1, SCRAP = 2;

    private static int wrong = 0;
    private static String sentence = "";

    private static void says(String words) {
        sentence = words;
    }

    private static void due(String what, int got, int want) {
        if (got != want) {
            wrong++;
            System.out.println("\"" + sentence + "\": " + what + " is " + got + ", due is " + want);
        }
    }

    public static void main(String[] args) {
        terms();
        newObject();
        kindAndShelf();
        mend();
        stock();
        fails();
        days();
        choose();
        looks();
        System.out.println(wrong == 0 ? "all bounds hold" : wrong + " answers are not as due");
        if (wrong != 0) {
            System.exit(1);
        }
    }

    /** Two kinds, the second with the first as its core; shelves 0 - 1 (3 days) - 2 (2 days). */
    private static SpareShelves chain() {
        SpareShelves x = new SpareShelves();
        x.kind(10, 20, -1);
        x.kind(50, 30, 0);
        x.shelf(0, 3);
        x.shelf(1, 2);
        return x;
    }

    /** Eight kinds, each with the one before as its core, and eight shelves, each a day below the one before. */
    private static SpareShelves broad() {
        SpareShelves x = new SpareShelves();
        for (int i = 0; i < 8; i++) {
            x.kind(1, 50, i - 1);
            if (i > 0) {
                x.shelf(i - 1, 1);
            }
        }
        return x;
    }

    private static void stockMany(SpareShelves x, int s, int k, int n) {
        for (int left = n; left > 0; left -= 9) {
            x.stock(s, k, Math.min(left, 9));
        }
    }

    private static void failMany(SpareShelves x, int s, int k, int n) {
        for (int i = 0; i < n; i++) {
            x.fails(s, k, PLAIN);
        }
    }

    private static void terms() {
        kindsAreEightAtMost();
        priceIsOneToThousand();
        daysToBuyAreOneToFifty();
        coreHasALesserNumber();
        shelvesAreEightAtMost();
        worksAreShelfZero();
        upHasALesserNumber();
        wayIsOneToTwenty();
        shelfMendsInOneToThirtyDays();
        worksMendAllInTenDaysAtFirst();
        menderIsTheFirstThatMends();
        rateIsZeroToTenThousand();
        flowIsThatOfShelvesThatDoNotMend();
        pipeIsByMendDaysOrElseWay();
        wantIsAtLeastZero();
    }

    private static void kindsAreEightAtMost() {
        says("KINDS of parts are numbered from 0 on, 8 at most");
        SpareShelves x = new SpareShelves();
        for (int k = 0; k < 8; k++) {
            due("kinds so far", x.count(0), k);
            due("the next kind is not there", x.mender(0, k), NONE);
            due("the next kind", x.kind(5, 5, -1), k);
            due("it is there", x.mender(0, k), 0);
        }
        due("the ninth", x.kind(5, 5, -1), FULL);
        due("the ninth with a core", x.kind(5, 5, 7), FULL);
        due("kinds", x.count(0), 8);
        due("the ninth is not there", x.mender(0, 8), NONE);
    }

    private static void priceIsOneToThousand() {
        says("a PRICE (1 .. 1000)");
        SpareShelves x = new SpareShelves();
        for (int price : new int[] {MIN, -1000, -1, 0, 1001, 1002, MAX}) {
            due("price " + price, x.kind(price, 5, -1), BAD);
        }
        due("price 1", x.kind(1, 5, -1), 0);
        due("price 1000", x.kind(1000, 5, -1), 1);
        x.stock(0, 0, 1);
        due("worth of one of 1", x.worth(), 1);
        x.stock(0, 1, 1);
        due("worth with one of 1000", x.worth(), 1001);
    }

    private static void daysToBuyAreOneToFifty() {
        says("days to BUY one (1 .. 50)");
        SpareShelves x = new SpareShelves();
        for (int days : new int[] {MIN, -50, -1, 0, 51, 52, MAX}) {
            due("days " + days, x.kind(5, days, -1), BAD);
        }
        due("days 1", x.kind(5, 1, -1), 0);
        due("days 50", x.kind(5, 50, -1), 1);
        x.fails(0, 0, SCRAP);
        x.fails(0, 1, SCRAP);
        due("bought and not there on day 0", x.about(0, 0, 7) * 10 + x.about(0, 1, 7), 11);
        x.days(1);
        due("on day 1", x.about(0, 0, 7) * 10 + x.about(0, 1, 7), 1);
        x.days(48);
        due("on day 49", x.about(0, 1, 7), 1);
        x.days(1);
        due("on day 50", x.about(0, 1, 7), 0);
        due("machines that stand", x.count(5), 0);
    }

    private static void coreHasALesserNumber() {
        says("perhaps a CORE: a KIND with a lesser number");
        SpareShelves x = new SpareShelves();
        for (int k = 0; k < 8; k++) {
            for (int core : new int[] {MIN, -8, -2, k, k + 1, 8, MAX}) {
                due("core " + core + " of kind " + k, x.kind(5, 5, core), NONE);
            }
            due("the greatest core of kind " + k + ", -1: none", x.kind(5, 5, k - 1), k);
        }
        due("kind 0 has no core", x.fails(0, 0, BY_CORE), STATE);
        for (int k = 1; k < 8; k++) {
            due("kind " + k + " has one", x.fails(0, k, BY_CORE), 0);
            due("it is of kind " + (k - 1), x.ask(0, k - 1, k == 1 ? 0 : 1, 2), k);
        }
        SpareShelves y = new SpareShelves();
        due("kind 0", y.kind(5, 5, -1), 0);
        due("without a core", y.kind(5, 5, -1), 1);
        due("with the least core", y.kind(5, 5, 0), 2);
        due("kind 1 has no core", y.fails(0, 1, BY_CORE), STATE);
        due("kind 2 has kind 0", y.fails(0, 2, BY_CORE) + y.ask(0, 0, 0, 2), 2);
    }

    private static void shelvesAreEightAtMost() {
        says("SHELVES are numbered from 0 on, 8 at most");
        SpareShelves x = new SpareShelves();
        for (int s = 1; s < 8; s++) {
            due("shelves so far", x.count(1), s);
            due("the next shelf is not there", x.field(s, 1), NONE);
            due("the next shelf", x.shelf(0, 5), s);
            due("it is there", x.field(s, 1), 5);
        }
        due("the ninth", x.shelf(0, 5), FULL);
        due("the ninth below the last", x.shelf(7, 5), FULL);
        due("shelves", x.count(1), 8);
        due("the ninth is not there", x.field(8, 1), NONE);
    }

    private static void worksAreShelfZero() {
        says("0 is the WORKS");
        SpareShelves x = chain();
        due("its up", x.field(0, 0), NONE);
        due("its way", x.field(0, 1), 0);
        x.fails(2, 0, SCRAP);
        due("it buys", x.about(0, 0, 7) * 100 + x.about(1, 0, 7) * 10 + x.about(2, 0, 7), 100);
    }

    private static void upHasALesserNumber() {
        says("each other one has an UP, a SHELF with a lesser number");
        SpareShelves x = new SpareShelves();
        for (int s = 1; s < 8; s++) {
            for (int up : new int[] {MIN, -8, -1, s, s + 1, 8, MAX}) {
                due("up " + up + " of shelf " + s, x.shelf(up, 5), NONE);
            }
            int up = s % 2 == 0 ? 0 : s - 1;
            due("up " + up, x.shelf(up, 5), s);
            due("the up of shelf " + s, x.field(s, 0), up);
        }
    }

    private static void wayIsOneToTwenty() {
        says("a WAY (1 .. 20 days, up or down)");
        SpareShelves x = new SpareShelves();
        x.kind(5, 50, -1);
        for (int way : new int[] {MIN, -20, -1, 0, 21, 22, MAX}) {
            due("way " + way, x.shelf(0, way), BAD);
        }
        due("way 1", x.shelf(0, 1), 1);
        due("way 20", x.shelf(0, 20), 2);
        due("the ways", x.field(1, 1) * 100 + x.field(2, 1), 120);
        x.mend(0, 0, 30);
        x.stock(0, 0, 2);
        x.fails(1, 0, PLAIN);
        x.fails(2, 0, PLAIN);
        due("down", x.about(1, 0, 5) * 10 + x.about(2, 0, 5), 11);
        due("up", x.about(0, 0, 6), 2);
        x.days(1);
        due("a day down", x.about(1, 0, 5) * 10 + x.about(2, 0, 5), 1);
        due("a day up", x.about(0, 0, 6) * 10 + x.about(0, 0, 3), 11);
        x.days(18);
        due("19 days down", x.about(2, 0, 5) * 10 + x.field(2, 2), 11);
        due("19 days up", x.about(0, 0, 6) * 10 + x.about(0, 0, 3), 11);
        x.days(1);
        due("20 days down", x.about(2, 0, 5) * 10 + x.field(2, 2), 0);
        due("20 days up", x.about(0, 0, 6) * 10 + x.about(0, 0, 3), 2);
    }

    private static void shelfMendsInOneToThirtyDays() {
        says("A SHELF MENDS a KIND in so many days (1 .. 30), or does not");
        SpareShelves x = chain();
        due("it does not at first", x.mender(1, 0), 0);
        due("in 1 day", x.mend(1, 0, 1), 0);
        due("it does", x.mender(1, 0), 1);
        x.fails(1, 0, PLAIN);
        due("a mend goes on", x.about(1, 0, 3), 1);
        x.days(1);
        due("it is done", x.about(1, 0, 3) + x.field(1, 2), 0);
        due("in 30 days", x.mend(1, 0, 30), 1);
        x.fails(1, 0, PLAIN);
        x.days(29);
        due("29 days", x.about(1, 0, 3), 1);
        x.days(1);
        due("30 days", x.about(1, 0, 3) + x.field(1, 2), 0);
        for (int days : new int[] {MIN, -30, -1, 31, 32, MAX}) {
            due("days " + days, x.mend(1, 0, days), BAD);
        }
        due("no more", x.mend(1, 0, 0), 30);
        due("it does not", x.mender(1, 0), 0);
    }

    private static void worksMendAllInTenDaysAtFirst() {
        says("the WORKS MENDS all, in 10 days at first");
        SpareShelves x = broad();
        x.fails(0, 0, PLAIN);
        x.fails(0, 7, PLAIN);
        for (int k = 0; k < 8; k++) {
            due("kind " + k, x.mend(0, k, 10), 10);
            due("the mender of kind " + k, x.mender(7, k), 0);
        }
        x.days(9);
        due("9 days", x.about(0, 0, 3) * 10 + x.about(0, 7, 3), 11);
        x.days(1);
        due("10 days", x.about(0, 0, 3) * 10 + x.about(0, 7, 3), 0);
    }

    private static void menderIsTheFirstThatMends() {
        says("The MENDER of a KIND for a SHELF is the first one of it, its UP, and so on that MENDS it");
        SpareShelves x = broad();
        for (int end = 1; end < 8; end++) {
            x.mend(end, 3, 5);
            for (int s = 0; s < 8; s++) {
                due("for " + s + " of those up to " + end, x.mender(s, 3), Math.min(s, end));
                due("of another kind", x.mender(s, 4), 0);
            }
        }
        for (int end = 7; end > 1; end--) {
            x.mend(end, 3, 0);
            due("for 7 of those below " + end, x.mender(7, 3), end - 1);
        }
        SpareShelves y = chain();
        y.shelf(0, 1);
        y.mend(3, 0, 5);
        due("a shelf aside is not on the way", y.mender(2, 0), 0);
    }

    private static void rateIsZeroToTenThousand() {
        says("a RATE for each KIND, thousandths a day (0 .. 10000, 0 at first)");
        SpareShelves x = broad();
        for (int s = 0; s < 8; s++) {
            due("at first", x.pipe(s, 7 - s, 3), 0);
        }
        due("10000", x.rate(7, 7, 10000), 0);
        due("it is so", x.pipe(7, 7, 3), 10000);
        for (int r : new int[] {MIN, -10000, -1, 10001, 10002, MAX}) {
            due("rate " + r, x.rate(7, 7, r), BAD);
            due("it is as it was", x.pipe(7, 7, 3), 10000);
        }
        due("0", x.rate(7, 7, 0), 10000);
        due("1", x.rate(7, 7, 1), 0);
        due("1", x.rate(0, 0, 1), 0);
        due("it was", x.rate(7, 7, 2), 1);
    }

    private static void flowIsThatOfShelvesThatDoNotMend() {
        says("FLOW of a KIND at a SHELF: its RATE, and the FLOWS of all SHELVES of which it is the UP and that do not MEND");
        SpareShelves x = broad();
        due("of no rates", x.pipe(0, 2, 0), 0);
        for (int s = 0; s < 8; s++) {
            x.rate(s, 2, 10000);
        }
        for (int s = 0; s < 8; s++) {
            due("of " + s, x.pipe(s, 2, 0), 10000 * (8 - s));
        }
        x.mend(4, 2, 1);
        int[] flows = {40000, 30000, 20000, 10000, 40000, 30000, 20000, 10000};
        for (int s = 0; s < 8; s++) {
            due("of " + s + " when 4 mends", x.pipe(s, 2, 0), flows[s]);
            due("of another kind", x.pipe(s, 3, 0), 0);
        }
        x.mend(4, 2, 0);
        due("of the works when 4 mends no more", x.pipe(0, 2, 0), 80000);
    }

    private static void pipeIsByMendDaysOrElseWay() {
        says("PIPE: FLOW times the days in which it MENDS the KIND, or else its WAY");
        SpareShelves x = chain();
        x.rate(2, 0, 7);
        due("by its way", x.pipe(2, 0, 1), 14);
        x.mend(2, 0, 1);
        due("by 1 day", x.pipe(2, 0, 1), 7);
        x.mend(2, 0, 30);
        due("by 30 days", x.pipe(2, 0, 1), 210);
        x.mend(2, 0, 0);
        due("by its way again", x.pipe(2, 0, 1), 14);
        due("of the works, by 10 days", x.pipe(0, 0, 1), 70);
        SpareShelves y = broad();
        for (int s = 0; s < 8; s++) {
            y.rate(s, 7, 10000);
        }
        y.mend(0, 7, 30);
        due("the greatest one", y.pipe(0, 7, 1), 2400000);
    }

    private static void wantIsAtLeastZero() {
        says("WANT: PIPE less 1000 times its GOOD ones, at least 0");
        SpareShelves x = chain();
        x.mend(2, 0, 1);
        due("of nothing", x.pipe(2, 0, 2), 0);
        x.rate(2, 0, 1);
        due("of 1 and no good one", x.pipe(2, 0, 2), 1);
        x.stock(2, 0, 1);
        int[] rates = {0, 1, 999, 1000, 1001, 10000};
        int[] wants = {0, 0, 0, 0, 1, 9000};
        for (int i = 0; i < rates.length; i++) {
            x.rate(2, 0, rates[i]);
            due("of " + rates[i] + " and a good one", x.pipe(2, 0, 2), wants[i]);
        }
        x.stock(2, 0, 8);
        due("of 10000 and nine", x.pipe(2, 0, 2), 1000);
        x.stock(2, 0, 1);
        due("of 10000 and ten", x.pipe(2, 0, 2), 0);
        x.stock(2, 0, 1);
        due("of 10000 and eleven", x.pipe(2, 0, 2), 0);
        x.fails(2, 0, PLAIN);
        x.fails(2, 0, PLAIN);
        due("those that are mended do not count", x.pipe(2, 0, 2), 1000);
        SpareShelves y = chain();
        y.rate(1, 0, 1000);
        y.stock(0, 0, 1);
        y.fails(1, 0, PLAIN);
        due("a good one is on the way", y.about(1, 0, 5), 1);
        due("those on the way, and asks, do not count", y.pipe(1, 0, 2), 3000);
    }

    private static void newObject() {
        says("The WORKS, no KINDS");
        SpareShelves x = new SpareShelves();
        int[] counts = {0, 1, 0, 0, 0, 0, 0};
        for (int what = 0; what < counts.length; what++) {
            due("count(" + what + ")", x.count(what), counts[what]);
        }
        int[] works = {NONE, 0, 0, 0, NONE};
        for (int what = 0; what < works.length; what++) {
            due("field(0, " + what + ")", x.field(0, what), works[what]);
        }
        due("worth()", x.worth(), 0);
        due("choose()", x.choose(), NONE);
        due("mend(0, 0, 5)", x.mend(0, 0, 5), NONE);
        due("stock(0, 0, 1)", x.stock(0, 0, 1), NONE);
        due("rate(0, 0, 5)", x.rate(0, 0, 5), NONE);
        due("fails(0, 0, 0)", x.fails(0, 0, 0), NONE);
        due("about(0, 0, 0)", x.about(0, 0, 0), NONE);
        due("ask(0, 0, 0, 0)", x.ask(0, 0, 0, 0), NONE);
        due("all(0, 0)", x.all(0, 0), NONE);
        due("mender(0, 0)", x.mender(0, 0), NONE);
        due("pipe(0, 0, 0)", x.pipe(0, 0, 0), NONE);
        due("shelves without kinds", x.shelf(0, 1), 1);
        due("days without kinds", x.days(60), 60);
        due("choose() with shelves alone", x.choose(), NONE);
        // another object has a state of its own
        due("kind(5, 5, -1)", x.kind(5, 5, -1), 0);
        due("kinds of another object", new SpareShelves().count(0), 0);
    }

    private static void kindAndShelf() {
        says("A KIND more (core -1: without): its number");
        SpareShelves x = chain();
        x.mend(2, 1, 7);
        x.rate(2, 1, 9);
        x.stock(2, 1, 3);
        due("a third one", x.kind(70, 5, -1), 2);
        int[] none = {0, 0, 0, 0, 0, 0, 0, 0, 0};
        for (int what = 0; what < none.length; what++) {
            due("all(2, " + what + ")", x.all(2, what), none[what]);
        }
        due("no shelf but the works mends it", x.mender(2, 2), 0);
        due("its rate", x.pipe(2, 2, 3), 0);
        due("the kind before is as it was", x.mend(2, 1, 7) * 100 + x.rate(2, 1, 9) * 10 + x.about(2, 1, 0), 793);
        says("A SHELF more, which MENDS nothing: its number");
        due("a fourth one", x.shelf(2, 4), 3);
        for (int k = 0; k < 3; k++) {
            due("it does not mend kind " + k, x.mend(3, k, 0), 0);
            due("its rate", x.pipe(3, k, 3), 0);
            due("what lies there", x.about(3, k, 0), 0);
        }
        due("the mender is the one above", x.mender(3, 1), 2);
    }

    private static void mend() {
        mendTellsWhatItWas();
        worksMendAlways();
        mendOfAKindWaits();
        brokenOnesThatComeGoBack();
        mendsThatGoOnDoSo();
        daysAreAsToldWhenItBegins();
    }

    private static void mendTellsWhatItWas() {
        says("what it was (0: it did not)");
        SpareShelves x = chain();
        int[] days = {0, 1, 30, 0, 0, 30, 1, 0};
        int was = 0;
        for (int n : days) {
            due("mend(1, 0, " + n + ")", x.mend(1, 0, n), was);
            was = n;
        }
        due("the other kind", x.mend(1, 1, 3), 0);
        due("the other shelf", x.mend(2, 0, 3), 0);
    }

    private static void worksMendAlways() {
        says("BAD: not 0 .. 30; the WORKS, 0");
        SpareShelves x = chain();
        due("the works, 0", x.mend(0, 0, 0), BAD);
        due("the works, 1", x.mend(0, 0, 1), 10);
        due("the works, 0", x.mend(0, 0, 0), BAD);
        due("the works, 30", x.mend(0, 0, 30), 1);
        due("the works, 31", x.mend(0, 0, 31), BAD);
        due("the works, -1", x.mend(0, 0, -1), BAD);
        due("it was", x.mend(0, 0, 10), 30);
        due("another shelf, 0", x.mend(1, 0, 0), 0);
    }

    private static void mendOfAKindWaits() {
        says("STATE: 0, and a MEND of the KIND waits for a CORE there");
        SpareShelves x = chain();
        x.mend(1, 0, 4);
        x.mend(1, 1, 4);
        x.mend(2, 1, 4);
        x.fails(2, 1, BY_CORE);
        due("there", x.mend(2, 1, 0), STATE);
        due("on another shelf", x.mend(1, 1, 0), 4);
        x.mend(1, 1, 4);
        x.fails(1, 1, PLAIN);
        due("a mend that does not wait", x.mend(1, 1, 0), 4);
        x.mend(1, 1, 4);
        x.fails(1, 1, BY_CORE);
        due("there", x.mend(1, 1, 0), STATE);
        due("the kind of the core", x.mend(1, 0, 0), 4);
        due("not 0 but 1", x.mend(1, 1, 1), 4);
        due("not 0 but 30", x.mend(1, 1, 30), 1);
        x.fails(1, 1, BY_CORE);
        x.stock(1, 0, 1);
        due("one of two waits still", x.mend(1, 1, 0), STATE);
        x.stock(1, 0, 1);
        due("none waits", x.mend(1, 1, 0), 30);
        // machines and shelves that wait there for the kind, and broken ones that come, are no mends
        SpareShelves y = chain();
        y.mend(1, 1, 4);
        y.fails(2, 1, BY_CORE);
        y.fails(1, 1, SCRAP);
        due("asks at 1 and a broken one that comes", y.about(1, 1, 1) * 10 + y.about(1, 1, 6), 21);
        due("no mend waits", y.mend(1, 1, 0), 4);
        // at one shelf a mend of another kind waits for the same core
        SpareShelves z = chain();
        z.kind(1, 1, 0);
        z.mend(1, 1, 4);
        z.mend(1, 2, 4);
        z.fails(1, 1, BY_CORE);
        due("a mend of another kind", z.mend(1, 2, 0), 4);
    }

    private static void brokenOnesThatComeGoBack() {
        says("0: no more; broken ones that come GO BACK from there");
        SpareShelves x = chain();
        x.mend(1, 0, 4);
        x.mend(1, 1, 4);
        x.fails(2, 0, PLAIN);
        x.fails(2, 1, BY_CORE);
        int asks = x.count(3);
        x.mend(1, 0, 0);
        x.mend(1, 1, 0);
        due("on the way to 1", x.about(1, 0, 6) * 10 + x.about(1, 1, 6), 11);
        x.days(2);
        due("on the way to the works", x.about(0, 0, 6) * 10 + x.about(0, 1, 6), 11);
        due("none is mended", x.all(0, 4) + x.all(1, 4), 0);
        due("they broke once", x.all(0, 8) * 10 + x.all(1, 8), 11);
        due("no other asks", x.count(3), asks);
        x.days(3);
        due("plain: its mend begins", x.about(0, 0, 3), 1);
        due("by its core: its mend waits", x.about(0, 1, 4), 1);
        // they go no farther than to the next one that mends
        SpareShelves y = chain();
        y.shelf(2, 1);
        y.mend(1, 0, 4);
        y.mend(2, 0, 4);
        y.fails(3, 0, PLAIN);
        y.mend(2, 0, 0);
        y.days(1);
        due("on the way to 1", y.about(1, 0, 6), 1);
        y.mend(1, 0, 0);
        y.mend(1, 0, 9);
        y.days(2);
        due("mended at 1", y.about(1, 0, 3), 1);
        // it is on the way to where it was sent, though a shelf nearer by mends now
        SpareShelves z = chain();
        z.fails(2, 0, PLAIN);
        z.mend(2, 0, 1);
        z.mend(1, 0, 1);
        z.days(4);
        due("on the way to the works", z.about(0, 0, 6), 1);
        z.days(1);
        due("mended at the works", z.about(0, 0, 3), 1);
    }

    private static void mendsThatGoOnDoSo() {
        says("MENDS that go on do so");
        SpareShelves x = chain();
        x.mend(1, 0, 4);
        x.fails(1, 0, PLAIN);
        x.mend(1, 0, 0);
        due("it goes on", x.about(1, 0, 3), 1);
        x.days(3);
        due("for 4 days", x.about(1, 0, 3) * 10 + x.field(1, 2), 11);
        x.days(1);
        due("then it lands there", x.about(1, 0, 3) * 10 + x.field(1, 2), 0);
    }

    private static void daysAreAsToldWhenItBegins() {
        says("Behind as many days as the MENDER MENDS the KIND in (as told when it begins)");
        SpareShelves x = chain();
        x.mend(2, 1, 9);
        x.fails(2, 1, BY_CORE);
        x.mend(2, 1, 3);
        x.stock(2, 0, 1);
        x.mend(2, 1, 1);
        x.days(2);
        due("2 days behind its begin", x.about(2, 1, 3), 1);
        x.days(1);
        due("3 days behind its begin", x.about(2, 1, 3), 0);
        says("the broken CORE GOES BACK from that SHELF, as PLAIN");
        SpareShelves y = broad();
        y.stock(7, 5, 1);
        y.mend(7, 6, 3);
        y.fails(7, 6, BY_CORE);
        due("the core is on its way", y.about(0, 5, 6), 1);
        y.days(7);
        due("its mend begins without a core of its own", y.about(0, 5, 3) * 10 + y.about(0, 4, 1), 10);
    }

    private static void stock() {
        says("BAD: n not 1 .. 9");
        SpareShelves x = chain();
        for (int n : new int[] {MIN, -9, -1, 0, 10, 11, MAX}) {
            due("n " + n, x.stock(2, 1, n), BAD);
        }
        due("n 1", x.stock(2, 1, 1), 1);
        due("n 9", x.stock(2, 1, 9), 10);
        due("bought", x.all(1, 0), 10);
        says("how many GOOD ones lie there then");
        due("on another shelf", x.stock(1, 1, 2), 2);
        for (int i = 0; i < 3; i++) {
            x.fails(0, 1, SCRAP);
        }
        due("fewer than ask", x.stock(0, 1, 2), 0);
        due("as many as ask", x.stock(0, 1, 1), 0);
        due("with none that asks", x.stock(0, 1, 1), 1);
        says("FULL: more than 200 of that KIND would have been bought");
        for (int n = 1; n <= 9; n++) {
            SpareShelves y = chain();
            stockMany(y, 1, 0, 201 - n);
            due("201 with " + n, y.stock(2, 0, n), FULL);
            due("none of them is bought", y.all(0, 0), 201 - n);
            due("none of them lies there", y.about(2, 0, 0), 0);
            due("200 with " + (n - 1), n == 1 ? 0 : y.stock(2, 0, n - 1), n - 1);
            due("201 with 1", y.stock(2, 0, 1), FULL);
            due("200 are bought", y.all(0, 0), 200);
            due("of the other kind", y.stock(2, 1, 9), 9);
        }
        boughtForScrapCounts();
    }

    private static void boughtForScrapCounts() {
        says("FULL: .. would have been bought (those that the WORKS BUYS for SCRAP, too)");
        SpareShelves x = chain();
        stockMany(x, 1, 0, 198);
        x.fails(2, 0, SCRAP);
        due("199 are bought, one is scrapped", x.all(0, 0) * 10 + x.all(0, 1), 1991);
        due("201 with 2", x.stock(1, 0, 2), FULL);
        due("200 with 1", x.stock(2, 0, 1), 0);
        due("scrap is no refusal", x.fails(2, 0, SCRAP), 0);
        due("201 are bought", x.all(0, 0), 201);
        due("202 with 1", x.stock(1, 0, 1), FULL);
    }

    private static void fails() {
        howIsZeroToTwo();
        byCoreAsksForACore();
        hundredAsks();
        asksOfAllShelvesAndKinds();
        hundredDues();
        duesOfAllShelvesAndKinds();
        othersAreNotRefused();
    }

    private static void howIsZeroToTwo() {
        says("BAD: how not 0 .. 2");
        SpareShelves x = chain();
        for (int how : new int[] {MIN, -2, -1, 3, 4, MAX}) {
            due("how " + how, x.fails(2, 1, how), BAD);
        }
        for (int how = 0; how <= 2; how++) {
            due("how " + how, x.fails(2, 1, how), 0);
        }
        says("A part BREAKS: 1 the machine goes on at once, 0 it STANDS");
        x.stock(1, 0, 1);
        due("with the last good one", x.fails(1, 0, PLAIN), 1);
        due("without one", x.fails(1, 0, PLAIN), 0);
    }

    private static void byCoreAsksForACore() {
        says("STATE: 1, and it has no CORE");
        SpareShelves x = chain();
        x.kind(5, 5, -1);
        due("kind 0", x.fails(1, 0, BY_CORE), STATE);
        due("kind 2", x.fails(1, 2, BY_CORE), STATE);
        due("kind 1, whose core is 0", x.fails(1, 1, BY_CORE), 0);
        due("kind 0 plain", x.fails(1, 0, PLAIN), 0);
        due("kind 2 for scrap", x.fails(1, 2, SCRAP), 0);
    }

    private static void hundredAsks() {
        says("FULL: more than 100 ASKS wait");
        SpareShelves x = broad();
        x.stock(3, 0, 1);
        // each brings an ask at each of eight shelves
        for (int i = 0; i < 11; i++) {
            x.fails(7, 1, SCRAP);
        }
        for (int i = 0; i < 11; i++) {
            due("a machine of the works", x.fails(0, 1, PLAIN), 0);
        }
        due("99 wait", x.count(3), 99);
        due("it is taken", x.fails(0, 1, PLAIN), 0);
        due("100 wait", x.count(3), 100);
        due("one that brings eight is taken", x.fails(7, 1, PLAIN), 0);
        due("108 wait", x.count(3), 108);
        due("things that are due", x.count(4) < 100 ? 1 : 0, 1);
        for (int how = 0; how <= 2; how++) {
            due("of the same kind, how " + how, x.fails(0, 1, how), FULL);
        }
        due("though a good one lies there", x.fails(3, 0, PLAIN), FULL);
        due("7 of them are served", x.stock(0, 1, 7), 0);
        due("101 wait", x.count(3), 101);
        due("refused", x.fails(0, 1, PLAIN), FULL);
        due("one is served", x.stock(0, 1, 1), 0);
        due("100 wait", x.count(3), 100);
        due("taken", x.fails(3, 0, PLAIN), 1);
    }

    private static void asksOfAllShelvesAndKinds() {
        says("FULL: more than 100 ASKS wait (by machines, by SHELVES, by MENDS)");
        SpareShelves x = new SpareShelves();
        x.kind(1, 50, -1);
        x.kind(1, 50, 0);
        x.kind(1, 50, -1);
        x.shelf(0, 1);
        for (int i = 0; i < 33; i++) {
            x.fails(0, 1, BY_CORE);
        }
        for (int i = 0; i < 11; i++) {
            x.fails(1, 2, SCRAP);
        }
        for (int i = 0; i < 13; i++) {
            x.fails(0, 2, SCRAP);
        }
        due("101 wait", x.count(3), 101);
        due("57 machines stand", x.count(5), 57);
        due("33 mends wait", x.about(0, 1, 4), 33);
        due("24 things are due", x.count(4), 24);
        for (int s = 0; s < 2; s++) {
            for (int k = 0; k < 3; k++) {
                due("fails(" + s + ", " + k + ", 0)", x.fails(s, k, PLAIN), FULL);
            }
        }
    }

    private static void hundredDues() {
        says("FULL: more than .. 100 things are due");
        SpareShelves x = chain();
        stockMany(x, 0, 0, 108);
        failMany(x, 0, 0, 99);
        due("99 are due", x.count(4), 99);
        due("taken", x.fails(0, 0, PLAIN), 1);
        due("100 are due", x.count(4), 100);
        due("taken", x.fails(0, 0, SCRAP), 1);
        due("101 are due", x.count(4), 101);
        for (int how = 0; how <= 2; how++) {
            due("how " + how, x.fails(0, 1, how), FULL);
        }
        due("no ask waits", x.count(3), 0);
        x.days(9);
        due("101 are due", x.count(4), 101);
        due("refused", x.fails(0, 0, PLAIN), FULL);
        x.days(1);
        due("one is due", x.count(4), 1);
        due("taken", x.fails(0, 0, PLAIN), 1);
    }

    private static void duesOfAllShelvesAndKinds() {
        says("FULL: more than .. 100 things are due (on the WAY, broken, in MENDS, bought)");
        SpareShelves x = chain();
        stockMany(x, 0, 0, 90);
        stockMany(x, 1, 0, 20);
        failMany(x, 1, 0, 20);
        due("20 good ones and 20 broken ones are on the way", x.about(1, 0, 5) * 100 + x.about(0, 0, 6), 2020);
        failMany(x, 0, 0, 20);
        stockMany(x, 2, 1, 20);
        x.mend(2, 1, 30);
        failMany(x, 2, 1, 20);
        for (int i = 0; i < 20; i++) {
            x.fails(0, 0, SCRAP);
        }
        due("100 are due", x.count(4), 100);
        due("no ask waits", x.count(3), 0);
        due("taken", x.fails(0, 1, PLAIN), 0);
        due("101 are due", x.count(4), 101);
        for (int s = 0; s < 3; s++) {
            for (int k = 0; k < 2; k++) {
                due("fails(" + s + ", " + k + ", 0)", x.fails(s, k, PLAIN), FULL);
            }
        }
    }

    private static void othersAreNotRefused() {
        says("FULL: more than 100 ASKS wait, or 100 things are due (of `fails` alone)");
        SpareShelves x = broad();
        for (int i = 0; i < 13; i++) {
            x.fails(7, 1, SCRAP);
        }
        due("104 asks wait", x.count(3), 104);
        due("stock", x.stock(0, 2, 9), 9);
        x.rate(0, 2, 1000);
        due("choose", x.choose(), 2);
        due("mend", x.mend(7, 1, 5), 0);
        due("days", x.days(1), 1);
        // each good whole that lands at 7 is served, and what follows may go beyond a hundred
        SpareShelves y = broad();
        y.mend(7, 1, 30);
        for (int i = 0; i < 50; i++) {
            y.fails(7, 1, BY_CORE);
        }
        due("100 asks wait", y.count(3), 100);
        stockMany(y, 7, 0, 50);
        due("50 mends got their cores, and 7 asks went up for each", y.count(3), 400);
        due("100 things are due", y.count(4), 100);
        stockMany(y, 0, 0, 50);
        due("150 things are due", y.count(4), 150);
        due("the last of 400", y.ask(6, 0, 49, 2), 7);
        due("beyond the last", y.ask(6, 0, 50, 2), NONE);
    }

    private static void days() {
        says("BAD: n not 1 .. 60");
        SpareShelves x = new SpareShelves();
        for (int n : new int[] {MIN, -60, -1, 0, 61, 62, MAX}) {
            due("n " + n, x.days(n), BAD);
        }
        due("TIME (0 at first)", x.count(2), 0);
        due("n 1", x.days(1), 1);
        due("n 60", x.days(60), 61);
        due("the time", x.count(2), 61);
        says("FULL: TIME would be above 5000");
        for (int left : new int[] {1, 2, 59, 60}) {
            SpareShelves y = new SpareShelves();
            daysUpTo(y, 5000 - left);
            if (left < 60) {
                due("a day too many", y.days(left + 1), FULL);
                due("no time went by", y.count(2), 5000 - left);
            }
            due("up to 5000", y.days(left), 5000);
            due("1 more", y.days(1), FULL);
            due("60 more", y.days(60), FULL);
            due("the time", y.count(2), 5000);
        }
    }

    private static void daysUpTo(SpareShelves x, int time) {
        for (int now = 0; now < time; now += 60) {
            x.days(Math.min(60, time - now));
        }
    }

    private static void choose() {
        noneIfAllWantsAreZero();
        ofSeveralTheLeastShelfThenKind();
        byPriceAsFractions();
        greatestNumbers();
        twoHundredWereBought();
        chosenOneLands();
    }

    private static void noneIfAllWantsAreZero() {
        says("none if all WANTS are 0");
        SpareShelves x = chain();
        due("without rates", x.choose(), NONE);
        x.mend(2, 1, 1);
        x.rate(2, 1, 1000);
        x.stock(2, 1, 1);
        due("with a want of 0", x.choose(), NONE);
        x.rate(2, 1, 1001);
        due("with a want of 1", x.choose(), 17);
        due("with a want of 0", x.choose(), NONE);
        due("bought", x.all(1, 0), 2);
    }

    private static void ofSeveralTheLeastShelfThenKind() {
        says("of several the least SHELF, then KIND");
        SpareShelves x = chain();
        x.kind(10, 5, -1);
        for (int s = 1; s < 3; s++) {
            x.mend(s, 0, 10);
            x.mend(s, 2, 10);
        }
        // each wants 1000 by a price of 10
        x.rate(2, 0, 100);
        x.rate(2, 2, 100);
        x.rate(1, 0, 100);
        x.rate(0, 2, 100);
        int[] order = {2, 8, 16, 18};
        for (int chosen : order) {
            due("chosen", x.choose(), chosen);
        }
        due("no more", x.choose(), NONE);
        SpareShelves y = broad();
        y.rate(7, 7, 1000);
        y.mend(7, 7, 1);
        due("the last shelf and the last kind", y.choose(), 63);
    }

    private static void byPriceAsFractions() {
        says("the greatest WANT by PRICE (as fractions)");
        SpareShelves x = new SpareShelves();
        x.kind(3, 5, -1);
        x.kind(2, 5, -1);
        x.mend(0, 0, 1);
        x.mend(0, 1, 1);
        x.rate(0, 0, 4);
        x.rate(0, 1, 3);
        due("3 by 2 is more than 4 by 3", x.choose(), 1);
        SpareShelves y = new SpareShelves();
        y.kind(1000, 5, -1);
        y.kind(999, 5, -1);
        y.shelf(0, 1);
        y.mend(0, 0, 29);
        y.rate(0, 0, 9069);
        y.mend(0, 1, 14);
        y.rate(0, 1, 10000);
        y.rate(1, 1, 8767);
        due("want of kind 0", y.pipe(0, 0, 2), 263001);
        due("want of kind 1", y.pipe(0, 1, 2), 262738);
        due("262738 by 999 is more than 263001 by 1000", y.choose(), 1);
        // less than 1 each
        SpareShelves z = new SpareShelves();
        z.kind(1000, 5, -1);
        z.kind(999, 5, -1);
        z.mend(0, 0, 1);
        z.mend(0, 1, 1);
        z.rate(0, 0, 1);
        z.rate(0, 1, 1);
        due("1 by 999 is more than 1 by 1000", z.choose(), 1);
    }

    private static void greatestNumbers() {
        says("the greatest WANT by PRICE, with the greatest WANTS and PRICES");
        for (int dear = 0; dear < 2; dear++) {
            SpareShelves x = new SpareShelves();
            x.kind(dear == 0 ? 1000 : 1, 5, -1);
            x.kind(dear == 1 ? 1000 : 1, 5, -1);
            int cheap = 1 - dear;
            for (int s = 0; s < 8; s++) {
                if (s > 0) {
                    x.shelf(0, 1);
                }
                x.rate(s, cheap, 10000);
            }
            x.mend(0, cheap, 30);
            x.rate(0, dear, 1);
            due("want of the cheap one", x.pipe(0, cheap, 2), 2400000);
            due("2400000 by 1 is more than 10 by 1000", x.choose(), cheap);
        }
    }

    private static void twoHundredWereBought() {
        says("FULL: 200 of that KIND, or more, were bought");
        SpareShelves x = chain();
        stockMany(x, 2, 0, 199);
        x.rate(1, 0, 10000);
        x.mend(1, 0, 30);
        due("199 were bought", x.choose(), 8);
        due("200 were bought", x.choose(), FULL);
        due("none lands", x.about(1, 0, 0) * 1000 + x.all(0, 0), 1200);
        x.fails(2, 0, SCRAP);
        due("201 were bought", x.choose(), FULL);
        x.fails(2, 0, SCRAP);
        due("202 were bought", x.choose(), FULL);
        x.rate(0, 1, 1);
        due("a lesser want of another kind is not taken in its stead", x.choose(), FULL);
        x.rate(1, 0, 0);
        due("of the other kind", x.choose(), 1);
        x.rate(0, 1, 0);
        due("without wants", x.choose(), NONE);
    }

    private static void chosenOneLands() {
        says("a GOOD one is bought and LANDS there at once");
        SpareShelves x = chain();
        x.mend(1, 0, 30);
        x.rate(1, 0, 40);
        x.fails(1, 0, SCRAP);
        int bought = x.all(0, 0);
        int worth = x.worth();
        due("chosen", x.choose(), 8);
        due("the machine goes on", x.field(1, 2), 0);
        due("chosen", x.choose(), 8);
        due("it lies there", x.about(1, 0, 0), 1);
        due("the want that is left", x.pipe(1, 0, 2), 200);
        due("chosen", x.choose(), 8);
        due("no want is left", x.choose(), NONE);
        due("bought", x.all(0, 0) - bought, 3);
        due("worth", x.worth() - worth, 30);
    }

    private static void looks() {
        shelvesAndKindsOfLooks(new SpareShelves(), 1, 0);
        shelvesAndKindsOfLooks(chain(), 3, 2);
        shelvesAndKindsOfLooks(broad(), 8, 8);
        whats();
        asksFromZeroOn();
        sinceTheFirst();
        worthIsNeverLess();
    }

    private static void place(SpareShelves x, int s, int k, boolean there) {
        due("about(" + s + ", " + k + ", 0)", x.about(s, k, 0), there ? 0 : NONE);
        due("mender(" + s + ", " + k + ")", x.mender(s, k), there ? 0 : NONE);
        due("pipe(" + s + ", " + k + ", 0)", x.pipe(s, k, 0), there ? 0 : NONE);
        due("rate(" + s + ", " + k + ", 0)", x.rate(s, k, 0), there ? 0 : NONE);
        due("mend(" + s + ", " + k + ", 10)", x.mend(s, k, s == 0 ? 10 : 0), there ? (s == 0 ? 10 : 0) : NONE);
        due("ask(" + s + ", " + k + ", 0, 0)", x.ask(s, k, 0, 0), NONE);
    }

    private static void shelvesAndKindsOfLooks(SpareShelves x, int shelves, int kinds) {
        says("NONE there is no such KIND, SHELF (of " + kinds + ", " + shelves + ")");
        for (int s : new int[] {MIN, -8, -1, shelves, 8, 9, MAX}) {
            place(x, s, 0, false);
            due("field(" + s + ", 1)", x.field(s, 1), NONE);
            due("stock(" + s + ", 0, 1)", x.stock(s, 0, 1), NONE);
            due("fails(" + s + ", 0, 0)", x.fails(s, 0, 0), NONE);
        }
        for (int k : new int[] {MIN, -8, -1, kinds, 8, 9, MAX}) {
            place(x, 0, k, false);
            due("all(" + k + ", 0)", x.all(k, 0), NONE);
            due("stock(0, " + k + ", 1)", x.stock(0, k, 1), NONE);
            due("fails(0, " + k + ", 0)", x.fails(0, k, 0), NONE);
        }
        for (int s : new int[] {0, shelves - 1}) {
            due("field(" + s + ", 2)", x.field(s, 2), 0);
            if (kinds > 0) {
                place(x, s, 0, true);
                place(x, s, kinds - 1, true);
                due("all(" + (kinds - 1) + ", 0)", x.all(kinds - 1, 0), 0);
            }
        }
    }

    private static void whats() {
        says("NONE there is no such .. what");
        SpareShelves x = chain();
        for (int what : new int[] {MIN, -2, -1, 8, 9, MAX}) {
            due("about(1, 1, " + what + ")", x.about(1, 1, what), NONE);
        }
        for (int what : new int[] {MIN, -2, -1, 9, 10, MAX}) {
            due("all(1, " + what + ")", x.all(1, what), NONE);
        }
        for (int what : new int[] {MIN, -2, -1, 5, 6, MAX}) {
            due("field(1, " + what + ")", x.field(1, what), NONE);
        }
        for (int what : new int[] {MIN, -2, -1, 4, 5, MAX}) {
            due("pipe(1, 1, " + what + ")", x.pipe(1, 1, what), NONE);
        }
        for (int what : new int[] {MIN, -2, -1, 7, 8, MAX}) {
            due("count(" + what + ")", x.count(what), NONE);
        }
        due("the last ones of all", x.about(1, 1, 7) + x.all(1, 8) + x.pipe(1, 1, 3) + x.count(6), 0);
        x.fails(1, 1, PLAIN);
        for (int what : new int[] {MIN, -2, -1, 3, 4, MAX}) {
            due("ask(1, 1, 0, " + what + ")", x.ask(1, 1, 0, what), NONE);
        }
        due("field(1, 4)", x.field(1, 4), 0);
        due("ask(1, 1, 0, 1)", x.ask(1, 1, 0, 1), 0);
        due("ask(0, 1, 0, 2)", x.ask(0, 1, 0, 2), 1);
    }

    private static void asksFromZeroOn() {
        says("Of ASK i, from 0 on, that waits at a SHELF for a KIND");
        SpareShelves x = chain();
        for (int waits = 0; waits < 5; waits++) {
            for (int what = 0; what < 3; what++) {
                for (int i : new int[] {MIN, -2, -1, waits, waits + 1, MAX}) {
                    due("ask(0, 1, " + i + ", " + what + ") of " + waits, x.ask(0, 1, i, what), NONE);
                }
            }
            x.days(1);
            x.fails(0, 1, SCRAP);
            for (int i = 0; i <= waits; i++) {
                due("ask " + i + " is since", x.ask(0, 1, i, 1), i + 1);
                due("ask " + i + " is by a machine", x.ask(0, 1, i, 0), 0);
                due("ask " + i + " is for", x.ask(0, 1, i, 2), NONE);
            }
        }
        x.stock(0, 1, 4);
        due("the last is the first now", x.ask(0, 1, 0, 1), 5);
        due("and the only one", x.ask(0, 1, 1, 1), NONE);
        x.stock(0, 1, 1);
        due("none waits", x.ask(0, 1, 0, 1), NONE);
    }

    private static void sinceTheFirst() {
        says("since which TIME the first of those that STAND does (NONE)");
        SpareShelves x = chain();
        due("none stands", x.field(2, 4), NONE);
        x.fails(2, 1, SCRAP);
        due("since 0", x.field(2, 4), 0);
        due("where none stands", x.field(1, 4), NONE);
        x.days(2);
        x.fails(2, 0, SCRAP);
        due("since 0 still", x.field(2, 4), 0);
        x.stock(2, 1, 1);
        due("since 2", x.field(2, 4), 2);
        x.stock(2, 0, 1);
        due("none stands", x.field(2, 4), NONE);
        due("stood days are kept", x.field(2, 3) * 10 + x.count(6), 22);
    }

    private static void worthIsNeverLess() {
        says("The price of all that was bought, less that of what was scrapped");
        SpareShelves x = new SpareShelves();
        for (int k = 0; k < 8; k++) {
            x.kind(1000, 50, -1);
            stockMany(x, 0, k, 200);
        }
        due("of 1600 for 1000 each", x.worth(), 1600000);
        due("scrapped", x.fails(0, 7, SCRAP), 1);
        due("bought anew on the same day", x.worth(), 1600000);
        SpareShelves y = chain();
        y.fails(0, 1, SCRAP);
        due("of one that was not bought here and one that is bought for it", y.worth(), 0);
    }
}
