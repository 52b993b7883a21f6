/** One method for each promise of the document, with answers worked out by hand from its words. */
public final class PromisesTest {
    private static final int NONE = -1, BAD = -2, STATE = -3, FULL = -4;
    private static final int[] WILD = {Integer.MIN_VALUE, -1000, -2, 9, 1000, Integer.MAX_VALUE};

    private static int wrong = 0;
    private static int promise = 0;

    private static void due(String call, int got, int want) {
        if (got != want) {
            wrong++;
            System.out.println("promise " + promise + ": " + call + " answered " + got + ", due is " + want);
        }
    }

    public static void main(String[] args) {
        promise = 1;
        newObject();
        promise = 2;
        kind();
        promise = 3;
        shelf();
        promise = 4;
        mend();
        mendNoMore();
        promise = 5;
        stock();
        promise = 6;
        rate();
        promise = 7;
        failsRefused();
        failsPlain();
        failsByCore();
        failsForScrap();
        failsFullOfAsks();
        failsFullOfDues();
        promise = 8;
        days();
        orderOfADay();
        promise = 9;
        choose();
        promise = 10;
        about();
        promise = 11;
        ask();
        promise = 12;
        all();
        promise = 13;
        field();
        promise = 14;
        mender();
        promise = 15;
        pipe();
        promise = 16;
        worth();
        promise = 17;
        count();
        System.out.println(wrong == 0 ? "all promises hold" : wrong + " answers are not as due");
        if (wrong != 0) {
            System.exit(1);
        }
    }

    /** Kind 0 (price 10, 20 days), kind 1 with core 0 (price 50, 30 days); shelves 0 - 1 (3 days) - 2 (2 days). */
    private static SpareShelves chain() {
        SpareShelves x = new SpareShelves();
        due("kind(10, 20, -1)", x.kind(10, 20, -1), 0);
        due("kind(50, 30, 0)", x.kind(50, 30, 0), 1);
        due("shelf(0, 3)", x.shelf(0, 3), 1);
        due("shelf(1, 2)", x.shelf(1, 2), 2);
        return x;
    }

    private static void newObject() {
        SpareShelves x = new SpareShelves();
        int[] counts = {0, 1, 0, 0, 0, 0, 0};
        for (int what = 0; what < counts.length; what++) {
            due("count(" + what + ")", x.count(what), counts[what]);
        }
        due("field(0, 0)", x.field(0, 0), NONE);
        due("field(0, 1)", x.field(0, 1), 0);
        due("field(1, 0)", x.field(1, 0), NONE);
        due("worth()", x.worth(), 0);
        due("choose()", x.choose(), NONE);
        due("about(0, 0, 0)", x.about(0, 0, 0), NONE);
        due("all(0, 0)", x.all(0, 0), NONE);
        due("mender(0, 0)", x.mender(0, 0), NONE);
        due("days(1)", x.days(1), 1);
    }

    private static void kind() {
        SpareShelves x = new SpareShelves();
        due("price 0", x.kind(0, 1, -1), BAD);
        due("price 1001", x.kind(1001, 1, -1), BAD);
        due("days 0", x.kind(1, 0, -1), BAD);
        due("days 51", x.kind(1, 51, -1), BAD);
        due("BAD before NONE", x.kind(0, 1, 5), BAD);
        due("BAD days before NONE", x.kind(1, 51, 5), BAD);
        due("core of its own", x.kind(1, 1, 0), NONE);
        due("core -2", x.kind(1, 1, -2), NONE);
        for (int core : WILD) {
            due("core " + core, x.kind(1, 1, core), NONE);
        }
        due("nothing came", x.count(0), 0);
        due("least", x.kind(1, 1, -1), 0);
        due("greatest", x.kind(1000, 50, 0), 1);
        due("core with the same number", x.kind(1, 1, 2), NONE);
        for (int k = 2; k < 8; k++) {
            due("kind " + k, x.kind(k, k, k - 1), k);
        }
        due("ninth", x.kind(1, 1, -1), FULL);
        due("NONE before FULL", x.kind(1, 1, 8), NONE);
        due("BAD before FULL", x.kind(0, 1, -1), BAD);
        due("count(0)", x.count(0), 8);
        due("works mend a new kind in 10 days", x.mend(0, 7, 1), 10);
        due("price is kept", x.stock(0, 1, 1), 1);
        due("worth()", x.worth(), 1000);
    }

    private static void shelf() {
        SpareShelves x = new SpareShelves();
        x.kind(1, 1, -1);
        due("up 1", x.shelf(1, 5), NONE);
        due("up -1", x.shelf(-1, 5), NONE);
        for (int up : WILD) {
            due("up " + up, x.shelf(up, 5), NONE);
        }
        due("NONE before BAD", x.shelf(1, 0), NONE);
        due("way 0", x.shelf(0, 0), BAD);
        due("way 21", x.shelf(0, 21), BAD);
        due("nothing came", x.count(1), 1);
        due("way 1", x.shelf(0, 1), 1);
        due("way 20", x.shelf(1, 20), 2);
        for (int s = 3; s < 8; s++) {
            due("shelf " + s, x.shelf(s - 1, s), s);
        }
        due("ninth", x.shelf(0, 5), FULL);
        due("BAD before FULL", x.shelf(0, 21), BAD);
        due("NONE before FULL", x.shelf(8, 5), NONE);
        due("count(1)", x.count(1), 8);
        due("up of 7", x.field(7, 0), 6);
        due("way of 7", x.field(7, 1), 7);
        due("mends nothing", x.mender(7, 0), 0);
        due("mend(7, 0, 3)", x.mend(7, 0, 3), 0);
    }

    private static void mend() {
        SpareShelves x = chain();
        for (int wild : WILD) {
            due("mend shelf " + wild, x.mend(wild, 0, 5), NONE);
            due("mend kind " + wild, x.mend(0, wild, 5), NONE);
        }
        due("NONE before BAD", x.mend(3, 0, 31), NONE);
        due("NONE before BAD", x.mend(0, 2, 31), NONE);
        due("days -1", x.mend(1, 0, -1), BAD);
        due("days 31", x.mend(1, 0, 31), BAD);
        due("the works, 0", x.mend(0, 0, 0), BAD);
        due("works", x.mend(0, 0, 30), 10);
        due("works", x.mend(0, 0, 1), 30);
        due("works of the other kind", x.mend(0, 1, 10), 10);
        due("begins", x.mend(2, 1, 30), 0);
        due("changes", x.mend(2, 1, 7), 30);
        due("ends", x.mend(2, 1, 0), 7);
        due("ended", x.mend(2, 1, 0), 0);
        // a mend of kind 1 waits for a core at shelf 1
        due("mend(1, 1, 4)", x.mend(1, 1, 4), 0);
        due("fails(1, 1, 1)", x.fails(1, 1, 1), 0);
        due("waits", x.about(1, 1, 4), 1);
        due("STATE", x.mend(1, 1, 0), STATE);
        due("BAD before STATE", x.mend(1, 1, 31), BAD);
        due("another number is fine", x.mend(1, 1, 6), 4);
        due("the core's kind is not held", x.mend(1, 0, 0), 0);
        due("another shelf is not held", x.mend(2, 1, 0), 0);
        // as told when it begins: 6 days, not 4 and not 9
        due("stock(1, 0, 1)", x.stock(1, 0, 1), 0);
        due("mend(1, 1, 9)", x.mend(1, 1, 9), 6);
        due("no more held", x.mend(1, 1, 0), 9);
        due("the mend goes on", x.about(1, 1, 3), 1);
        due("days(5)", x.days(5), 5);
        due("stands still", x.about(1, 1, 2), 1);
        due("days(1)", x.days(1), 6);
        due("served", x.about(1, 1, 2), 0);
    }

    private static void mendNoMore() {
        SpareShelves x = chain();
        x.mend(1, 0, 4);
        x.mend(1, 1, 4);
        x.fails(2, 0, 0);
        x.fails(2, 1, 1);
        due("broken ones on the way to 1", x.about(1, 0, 6) + x.about(1, 1, 6), 2);
        int asks = x.count(3);
        due("mend(1, 0, 0)", x.mend(1, 0, 0), 4);
        due("mend(1, 1, 0)", x.mend(1, 1, 0), 4);
        x.days(2);
        due("none mended at 1", x.about(1, 0, 3) + x.about(1, 1, 4), 0);
        due("plain goes back from 1", x.about(0, 0, 6), 1);
        due("by its core goes back from 1", x.about(0, 1, 6), 1);
        due("no asks for it", x.count(3), asks);
        due("not broken anew", x.all(0, 8), 1);
        x.days(2);
        due("3 days up", x.about(0, 0, 6), 1);
        x.days(1);
        due("plain one is mended", x.about(0, 0, 3), 1);
        due("the other waits for its core still", x.about(0, 1, 4), 1);
        due("about(0, 1, 3)", x.about(0, 1, 3), 0);
        // a part that comes where it is mended again is mended there
        SpareShelves y = chain();
        y.mend(1, 0, 4);
        y.fails(2, 0, 0);
        y.mend(1, 0, 0);
        y.mend(1, 0, 8);
        y.days(2);
        due("mended at 1", y.about(1, 0, 3), 1);
        // a part that is under way does not stop at a shelf that began to mend
        SpareShelves z = chain();
        z.fails(2, 0, 0);
        z.mend(1, 0, 4);
        z.days(4);
        due("on the way to the works", z.about(0, 0, 6), 1);
        z.days(1);
        due("in the works", z.about(0, 0, 3), 1);
    }

    private static void stock() {
        SpareShelves x = chain();
        for (int wild : WILD) {
            due("stock shelf " + wild, x.stock(wild, 0, 1), NONE);
            due("stock kind " + wild, x.stock(0, wild, 1), NONE);
        }
        due("NONE before BAD", x.stock(3, 0, 0), NONE);
        due("n 0", x.stock(0, 0, 0), BAD);
        due("n 10", x.stock(0, 0, 10), BAD);
        due("nothing bought", x.all(0, 0), 0);
        due("n 9", x.stock(0, 0, 9), 9);
        due("n 1", x.stock(0, 0, 1), 10);
        for (int i = 0; i < 21; i++) {
            due("n 9", x.stock(1, 0, 9), 9 * (i + 1));
        }
        due("199", x.all(0, 0), 199);
        due("201", x.stock(0, 0, 2), FULL);
        due("BAD before FULL", x.stock(0, 0, 10), BAD);
        due("199 still", x.all(0, 0), 199);
        due("200", x.stock(2, 0, 1), 1);
        due("201", x.stock(0, 0, 1), FULL);
        due("another kind", x.stock(0, 1, 9), 9);
        // asks are served as the parts land, in the order in which they came
        SpareShelves y = chain();
        y.fails(2, 0, 0);
        y.fails(1, 0, 0);
        due("ask 0 by shelf 2", y.ask(1, 0, 0, 2), 2);
        due("ask 1 by a machine", y.ask(1, 0, 1, 0), 0);
        due("stock(1, 0, 1)", y.stock(1, 0, 1), 0);
        due("on the way to 2", y.about(2, 0, 5), 1);
        due("the machine waits", y.field(1, 2), 1);
        due("stock(1, 0, 3)", y.stock(1, 0, 3), 2);
        due("the machine goes on", y.field(1, 2), 0);
        due("bought", y.all(0, 0), 4);
        // the one that is bought for scrap counts among the 200
        SpareShelves z = chain();
        z.fails(0, 0, 2);
        for (int i = 0; i < 22; i++) {
            z.stock(0, 0, 9);
        }
        due("199 with the scrapped one's", z.all(0, 0), 199);
        due("201", z.stock(0, 0, 2), FULL);
        due("200", z.stock(0, 0, 1), 198);
    }

    private static void rate() {
        SpareShelves x = chain();
        for (int wild : WILD) {
            due("rate shelf " + wild, x.rate(wild, 0, 1), NONE);
            due("rate kind " + wild, x.rate(0, wild, 1), NONE);
        }
        due("NONE before BAD", x.rate(3, 0, -1), NONE);
        due("r -1", x.rate(0, 0, -1), BAD);
        due("r 10001", x.rate(0, 0, 10001), BAD);
        due("r 10000", x.rate(0, 0, 10000), 0);
        due("r 0", x.rate(0, 0, 0), 10000);
        due("r 7", x.rate(2, 1, 7), 0);
        due("r 8", x.rate(2, 1, 8), 7);
        due("others are as they were", x.rate(1, 1, 5), 0);
    }

    private static void failsRefused() {
        SpareShelves x = chain();
        for (int wild : WILD) {
            due("fails shelf " + wild, x.fails(wild, 0, 0), NONE);
            due("fails kind " + wild, x.fails(0, wild, 0), NONE);
        }
        due("NONE before BAD", x.fails(3, 0, 3), NONE);
        due("NONE before BAD", x.fails(0, 2, 3), NONE);
        due("how -1", x.fails(0, 0, -1), BAD);
        due("how 3", x.fails(0, 0, 3), BAD);
        due("no core", x.fails(0, 0, 1), STATE);
        due("nothing broke", x.all(0, 8) + x.count(3) + x.count(4), 0);
    }

    private static void failsPlain() {
        SpareShelves x = chain();
        due("stands", x.fails(0, 0, 0), 0);
        due("mended at once", x.about(0, 0, 3), 1);
        due("no ask goes up from the works", x.count(3), 1);
        due("days(9)", x.days(9), 9);
        due("stands", x.field(0, 2), 1);
        due("days(1)", x.days(1), 10);
        due("goes on", x.field(0, 2), 0);
        due("stood", x.field(0, 3), 9);
        x.stock(2, 0, 1);
        x.stock(0, 0, 1);
        due("goes on at once", x.fails(2, 0, 0), 1);
        due("good one taken", x.about(2, 0, 0), 0);
        due("shelf 2 asks at 1", x.ask(1, 0, 0, 2), 2);
        due("shelf 1 is served at once", x.about(1, 0, 5), 1);
        due("broken one on the way", x.about(0, 0, 6), 1);
        x.days(3);
        due("from 1 on to 2", x.about(2, 0, 5), 1);
        x.days(2);
        due("good one at 2", x.about(2, 0, 0), 1);
        due("broken one came behind 5 days", x.about(0, 0, 3), 1);
        x.days(10);
        due("good one at the works", x.about(0, 0, 0), 1);
        // a mender on the way: the asks end there
        SpareShelves y = chain();
        y.mend(1, 0, 4);
        y.fails(2, 0, 0);
        due("one by the machine, one by shelf 2", y.count(3), 2);
        due("none at the works", y.about(0, 0, 1), 0);
        y.mend(2, 0, 6);
        y.fails(2, 0, 0);
        due("only the machine's", y.count(3), 3);
        due("mended where it broke", y.about(2, 0, 3), 1);
    }

    private static void failsByCore() {
        // the core's mender is the same shelf: the core's mend begins ahead of the whole one's
        SpareShelves x = chain();
        x.mend(0, 1, 10);
        x.stock(0, 0, 1);
        due("fails(0, 1, 1)", x.fails(0, 1, 1), 0);
        due("core taken", x.about(0, 0, 0), 0);
        due("both are mended", x.about(0, 0, 3) * 10 + x.about(0, 1, 3), 11);
        due("core took", x.all(0, 7), 1);
        due("core broke", x.all(0, 8), 1);
        // without a core it waits; no core broke till then
        SpareShelves y = chain();
        y.mend(1, 1, 4);
        due("fails(1, 1, 1)", y.fails(1, 1, 1), 0);
        due("waits for a core", y.about(1, 1, 4), 1);
        due("by a mend", y.ask(1, 0, 0, 0), 2);
        due("of kind 1", y.ask(1, 0, 0, 2), 1);
        due("no core broke yet", y.all(0, 8), 0);
        due("nothing is due", y.count(4), 0);
        y.days(5);
        due("a core comes", y.stock(1, 0, 1), 0);
        due("the mend goes on", y.about(1, 1, 3), 1);
        due("the broken core goes to the works", y.about(0, 0, 6), 1);
        due("shelf 1 asks for a core", y.ask(0, 0, 0, 2), 1);
        due("since", y.ask(0, 0, 0, 1), 5);
        y.days(4);
        due("the machine goes on", y.field(1, 2), 0);
        y.days(9);
        due("the core is mended and comes down", y.about(1, 0, 5), 1);
        y.days(3);
        due("good core", y.about(1, 0, 0), 1);
        // the core of the core stays: a core goes back as plain
        SpareShelves z = new SpareShelves();
        z.kind(1, 1, -1);
        z.kind(1, 1, 0);
        z.kind(1, 1, 1);
        z.stock(0, 1, 1);
        z.fails(0, 2, 1);
        due("kind 1 as plain", z.about(0, 1, 3), 1);
        due("no ask for kind 0", z.about(0, 0, 1), 0);
    }

    private static void failsForScrap() {
        SpareShelves x = chain();
        x.mend(2, 0, 1);
        x.stock(1, 0, 1);
        due("fails(2, 0, 2)", x.fails(2, 0, 2), 0);
        due("scrapped", x.all(0, 1), 1);
        due("not mended", x.all(0, 4), 0);
        due("broke", x.all(0, 8), 1);
        due("shelf 1 serves at once", x.about(2, 0, 5), 1);
        due("shelf 1 asks the works", x.ask(0, 0, 0, 2), 1);
        due("bought", x.about(0, 0, 7), 1);
        due("bought by the works alone", x.about(2, 0, 7), 0);
        due("bought in all", x.all(0, 0), 2);
        due("days(19)", x.days(19), 19);
        due("not there yet", x.all(0, 5), 1);
        due("days(1)", x.days(1), 20);
        due("goes down", x.about(1, 0, 5), 1);
        // at the works nobody else is asked
        SpareShelves y = chain();
        y.fails(0, 1, 2);
        due("one ask", y.count(3), 1);
        due("no core is asked for", y.about(0, 0, 1), 0);
        due("days(30)", y.days(30), 30);
        due("served", y.count(3), 0);
    }

    private static void failsFullOfAsks() {
        // each broken part of shelf 7 brings eight asks, one at each shelf
        SpareShelves x = new SpareShelves();
        x.kind(1, 50, -1);
        for (int s = 1; s < 8; s++) {
            x.shelf(s - 1, 20);
        }
        for (int i = 0; i < 12; i++) {
            x.fails(7, 0, 0);
        }
        due("asks", x.count(3), 96);
        for (int i = 0; i < 4; i++) {
            due("a machine of the works", x.fails(0, 0, 0), 0);
        }
        due("asks", x.count(3), 100);
        due("100 are not more than 100", x.fails(7, 0, 0), 0);
        due("asks", x.count(3), 108);
        due("more than 100", x.fails(7, 0, 0), FULL);
        due("even with a good one", x.stock(6, 0, 8), 0);
        due("asks", x.count(3), 100);
        due("machine of the works", x.fails(0, 0, 0), 0);
        due("more than 100", x.fails(0, 0, 0), FULL);
        due("STATE before FULL", x.fails(0, 0, 1), STATE);
        due("BAD before FULL", x.fails(0, 0, 3), BAD);
        due("NONE before FULL", x.fails(0, 1, 0), NONE);
        due("broke", x.all(0, 8), 18);
    }

    private static void failsFullOfDues() {
        SpareShelves x = new SpareShelves();
        x.kind(1, 50, -1);
        for (int i = 0; i < 12; i++) {
            x.stock(0, 0, 9);
        }
        for (int i = 0; i < 101; i++) {
            due("goes on", x.fails(0, 0, 0), 1);
        }
        due("dues", x.count(4), 101);
        due("more than 100 are due", x.fails(0, 0, 0), FULL);
        due("nothing taken", x.about(0, 0, 0), 7);
        x.days(10);
        due("all are back", x.about(0, 0, 0), 108);
        due("goes on", x.fails(0, 0, 0), 1);
    }

    private static void days() {
        SpareShelves x = new SpareShelves();
        due("n 0", x.days(0), BAD);
        due("n -1", x.days(-1), BAD);
        due("n 61", x.days(61), BAD);
        due("n MIN", x.days(Integer.MIN_VALUE), BAD);
        due("n MAX", x.days(Integer.MAX_VALUE), BAD);
        due("no time went by", x.count(2), 0);
        due("n 1", x.days(1), 1);
        for (int i = 1; i <= 83; i++) {
            due("n 60", x.days(60), 1 + 60 * i);
        }
        due("5001", x.days(20), FULL);
        due("BAD before FULL", x.days(61), BAD);
        due("5000", x.days(19), 5000);
        due("5001", x.days(1), FULL);
        due("count(2)", x.count(2), 5000);
    }

    private static void orderOfADay() {
        // on day 10 lands first the one that was bought, for the works' machine, then the mended one, for shelf 1
        SpareShelves x = new SpareShelves();
        x.kind(1, 10, -1);
        x.shelf(0, 5);
        x.stock(0, 0, 1);
        x.fails(0, 0, 2);
        x.fails(0, 0, 0);
        x.fails(1, 0, 0);
        due("ask of the machine, then of shelf 1", x.ask(0, 0, 0, 0) * 10 + x.ask(0, 0, 1, 0), 1);
        x.days(10);
        due("the first of the works' asks is served by what landed", x.field(0, 2), 0);
        due("shelf 1's ask too", x.about(1, 0, 5), 1);
        // a machine that is served on a day has not stood on it
        due("stood", x.field(0, 3), 9);
        due("stood", x.field(1, 3), 10);
        x.days(5);
        due("stood", x.field(1, 3), 14);
        // two mends that need the one core that is there: the part that was sent first gets it
        SpareShelves y = new SpareShelves();
        y.kind(1, 50, -1);
        y.kind(1, 50, 0);
        y.kind(1, 50, 0);
        y.shelf(0, 5);
        y.shelf(0, 3);
        y.stock(0, 0, 1);
        y.fails(1, 1, 1);
        y.days(2);
        y.fails(2, 2, 1);
        y.days(3);
        due("sent first", y.about(0, 1, 3), 1);
        due("sent later waits", y.about(0, 2, 4), 1);
        // a machine's ask that came behind that of a mend waits for the next one
        SpareShelves z = new SpareShelves();
        z.kind(1, 50, -1);
        z.kind(1, 50, 0);
        z.fails(0, 1, 1);
        z.fails(0, 0, 0);
        due("the mend asked first", z.ask(0, 0, 0, 0), 2);
        z.days(10);
        due("the mend goes on", z.about(0, 1, 3), 1);
        due("the machine stands", z.about(0, 0, 2), 1);
        z.days(10);
        due("both machines go on", z.count(5), 0);
        due("stood", z.count(6), 19 + 19);
    }

    private static void choose() {
        SpareShelves x = new SpareShelves();
        x.kind(3, 5, -1);
        x.kind(2, 5, -1);
        x.kind(2, 5, -1);
        x.shelf(0, 2);
        due("all wants are 0", x.choose(), NONE);
        x.rate(0, 0, 100);
        x.mend(0, 0, 30);
        x.rate(1, 1, 1000);
        x.mend(0, 1, 1);
        // wants: 3000 by 3 at (0, 0); 2000 by 2 at (1, 1); 1000 by 2 at (0, 1)
        due("of several the least shelf", x.choose(), 0);
        due("about(0, 0, 0)", x.about(0, 0, 0), 1);
        due("2000 by 3 is less", x.choose(), 9);
        due("2000 by 3 is more than 1000 by 2", x.choose(), 0);
        due("1000 by 2 at the works", x.choose(), 1);
        due("1000 by 2 at 1", x.choose(), 9);
        due("1000 by 3", x.choose(), 0);
        due("none", x.choose(), NONE);
        due("bought", x.all(0, 0) * 10 + x.all(1, 0), 33);
        x.rate(0, 1, 1000);
        x.rate(0, 2, 2000);
        x.mend(0, 2, 1);
        x.mend(0, 1, 2);
        // wants: 4000 - 1000 at (0, 1), 2000 at (0, 2)
        due("the greater want", x.choose(), 1);
        due("of several the least kind", x.choose(), 1);
        due("then the other", x.choose(), 2);
        // a chosen one that lands serves an ask
        SpareShelves y = chain();
        y.fails(1, 0, 0);
        y.rate(1, 0, 1);
        y.mend(1, 0, 1);
        due("choose()", y.choose(), 8);
        due("served", y.field(1, 2), 0);
        due("none lies there", y.about(1, 0, 0), 0);
        due("wanted still", y.choose(), 8);
        due("now it lies there", y.about(1, 0, 0), 1);
        chooseFull();
    }

    private static void chooseFull() {
        SpareShelves x = chain();
        x.rate(0, 0, 10000);
        for (int i = 0; i < 22; i++) {
            x.stock(1, 0, 9);
        }
        x.stock(1, 0, 1);
        due("the 200th", x.choose(), 0);
        due("bought", x.all(0, 0), 200);
        due("FULL", x.choose(), FULL);
        due("nothing landed", x.about(0, 0, 0), 1);
        x.fails(1, 0, 2);
        due("201 with one for scrap", x.all(0, 0), 201);
        due("FULL", x.choose(), FULL);
        x.rate(0, 1, 10000);
        due("of the greatest want alone", x.choose(), FULL);
        x.rate(0, 0, 0);
        due("the other kind", x.choose(), 1);
        x.rate(0, 1, 0);
        due("none", x.choose(), NONE);
    }

    private static void about() {
        SpareShelves x = chain();
        for (int wild : WILD) {
            due("about shelf " + wild, x.about(wild, 0, 0), NONE);
            due("about kind " + wild, x.about(0, wild, 0), NONE);
            due("about what " + wild, x.about(0, 0, wild), NONE);
        }
        due("what -1", x.about(0, 0, -1), NONE);
        due("what 8", x.about(0, 0, 8), NONE);
        due("shelf 3", x.about(3, 0, 0), NONE);
        due("kind 2", x.about(0, 2, 0), NONE);
        x.mend(1, 1, 4);
        x.stock(1, 1, 2);
        x.fails(1, 1, 0);
        x.fails(1, 1, 1);
        x.fails(1, 1, 1);
        x.fails(2, 1, 0);
        x.fails(2, 1, 2);
        int[] ones = {0, 3, 1, 1, 2, 0, 1, 0};
        for (int what = 0; what < 8; what++) {
            due("about(1, 1, " + what + ")", x.about(1, 1, what), ones[what]);
        }
        due("two mends ask", x.about(1, 0, 1), 2);
        due("no machine", x.about(1, 0, 2), 0);
        due("two stand at 2", x.about(2, 1, 2), 2);
        due("bought", x.about(0, 1, 7), 1);
        due("not here", x.about(1, 1, 7), 0);
        x.stock(1, 1, 3);
        due("two are on the way", x.about(2, 1, 5), 2);
        due("none lies there", x.about(1, 1, 0), 0);
        x.stock(1, 1, 1);
        due("one lies there", x.about(1, 1, 0), 1);
    }

    private static void ask() {
        SpareShelves x = chain();
        x.mend(1, 1, 4);
        x.days(1);
        x.fails(2, 0, 0);
        x.days(1);
        x.fails(1, 0, 0);
        x.days(1);
        x.fails(1, 1, 1);
        int[][] rows = {{1, 1, 2}, {0, 2, NONE}, {2, 3, 1}};
        for (int i = 0; i < 3; i++) {
            for (int what = 0; what < 3; what++) {
                due("ask(1, 0, " + i + ", " + what + ")", x.ask(1, 0, i, what), rows[i][what]);
            }
            due("what 3", x.ask(1, 0, i, 3), NONE);
            due("what -1", x.ask(1, 0, i, -1), NONE);
        }
        due("i 3", x.ask(1, 0, 3, 0), NONE);
        due("i -1", x.ask(1, 0, -1, 0), NONE);
        for (int wild : WILD) {
            due("ask shelf " + wild, x.ask(wild, 0, 0, 0), NONE);
            due("ask kind " + wild, x.ask(1, wild, 0, 0), NONE);
            due("ask i " + wild, x.ask(1, 0, wild, 0), NONE);
            due("ask what " + wild, x.ask(1, 0, 0, wild), NONE);
        }
        due("one for kind 1", x.ask(1, 1, 0, 1), 3);
        due("one alone", x.ask(1, 1, 1, 0), NONE);
        x.stock(1, 0, 1);
        due("the first is served", x.ask(1, 0, 0, 0), 0);
        due("the last moves up", x.ask(1, 0, 1, 0), 2);
        due("two are left", x.ask(1, 0, 2, 0), NONE);
    }

    private static void all() {
        SpareShelves x = chain();
        for (int wild : WILD) {
            due("all kind " + wild, x.all(wild, 0), NONE);
            due("all what " + wild, x.all(0, wild), NONE);
        }
        due("what -1", x.all(0, -1), NONE);
        due("what 9", x.all(0, 9), NONE);
        due("kind 2", x.all(2, 0), NONE);
        x.stock(0, 1, 2);
        x.stock(1, 1, 2);
        x.stock(2, 1, 3);
        x.fails(2, 1, 0);
        x.fails(2, 1, 1);
        x.fails(2, 1, 2);
        x.fails(0, 1, 0);
        x.fails(0, 1, 1);
        // asks of 2: two served by 1, one waits; asks of 1: two served by the works, one waits; so do the works' machines
        due("asks", x.count(3), 5);
        int[] ones = {8, 1, 0, 6, 2, 1, 3, 0, 5};
        for (int what = 0; what < 9; what++) {
            due("all(1, " + what + ")", x.all(1, what), ones[what]);
        }
        due("no core broke yet", x.all(0, 8), 0);
        x.stock(0, 0, 9);
        due("a core was taken", x.all(0, 7), 1);
        due("a core broke", x.all(0, 8), 1);
        due("machines took none", x.all(0, 6), 0);
        due("a core is mended", x.all(0, 4), 1);
        due("good ones", x.all(0, 2), 8);
        x.stock(0, 1, 3);
        due("machines that stood took two", x.all(1, 6), 5);
        x.fails(0, 0, 0);
        due("a machine took one at once", x.all(0, 6), 1);
    }

    private static void field() {
        SpareShelves x = chain();
        for (int wild : WILD) {
            due("field shelf " + wild, x.field(wild, 0), NONE);
            due("field what " + wild, x.field(0, wild), NONE);
        }
        due("shelf 3", x.field(3, 0), NONE);
        due("what -1", x.field(0, -1), NONE);
        due("what 5", x.field(0, 5), NONE);
        int[] works = {NONE, 0, 0, 0, NONE};
        int[] last = {1, 2, 0, 0, NONE};
        for (int what = 0; what < 5; what++) {
            due("field(0, " + what + ")", x.field(0, what), works[what]);
            due("field(2, " + what + ")", x.field(2, what), last[what]);
        }
        x.days(3);
        x.fails(2, 1, 0);
        x.days(1);
        x.fails(2, 0, 0);
        x.fails(2, 0, 0);
        due("since", x.field(2, 4), 3);
        due("machines", x.field(2, 2), 3);
        x.days(2);
        due("stood", x.field(2, 3), 1 + 3 + 3);
        due("shelves that ask do not stand", x.field(1, 2), 0);
        due("nor since", x.field(1, 4), NONE);
        x.stock(2, 1, 1);
        due("since", x.field(2, 4), 4);
        due("machines", x.field(2, 2), 2);
        due("stood days are kept", x.field(2, 3), 7);
        x.stock(2, 0, 2);
        due("since", x.field(2, 4), NONE);
        x.days(1);
        due("no more days", x.field(2, 3), 7);
    }

    private static void mender() {
        SpareShelves x = chain();
        for (int wild : WILD) {
            due("mender shelf " + wild, x.mender(wild, 0), NONE);
            due("mender kind " + wild, x.mender(0, wild), NONE);
        }
        due("shelf 3", x.mender(3, 0), NONE);
        due("kind 2", x.mender(0, 2), NONE);
        due("mender(2, 0)", x.mender(2, 0), 0);
        x.mend(1, 0, 1);
        due("mender(2, 0)", x.mender(2, 0), 1);
        due("mender(2, 1)", x.mender(2, 1), 0);
        due("mender(1, 0)", x.mender(1, 0), 1);
        x.mend(2, 0, 1);
        due("mender(2, 0)", x.mender(2, 0), 2);
        x.mend(1, 0, 0);
        due("mender(2, 0)", x.mender(2, 0), 2);
        due("mender(1, 0)", x.mender(1, 0), 0);
        due("mender(0, 0)", x.mender(0, 0), 0);
    }

    private static void pipe() {
        SpareShelves x = chain();
        x.shelf(1, 20);
        for (int wild : WILD) {
            due("pipe shelf " + wild, x.pipe(wild, 0, 0), NONE);
            due("pipe kind " + wild, x.pipe(0, wild, 0), NONE);
            due("pipe what " + wild, x.pipe(0, 0, wild), NONE);
        }
        due("what 4", x.pipe(0, 0, 4), NONE);
        due("what -1", x.pipe(0, 0, -1), NONE);
        x.rate(0, 0, 1);
        x.rate(1, 0, 20);
        x.rate(2, 0, 300);
        x.rate(3, 0, 4000);
        due("flow of 3", x.pipe(3, 0, 0), 4000);
        due("flow of 1", x.pipe(1, 0, 0), 4320);
        due("flow of the works", x.pipe(0, 0, 0), 4321);
        due("pipe of 3", x.pipe(3, 0, 1), 80000);
        due("pipe of 1", x.pipe(1, 0, 1), 3 * 4320);
        due("pipe of the works", x.pipe(0, 0, 1), 43210);
        due("flow of the other kind", x.pipe(0, 1, 0), 0);
        x.mend(3, 0, 2);
        due("flow of 3", x.pipe(3, 0, 0), 4000);
        due("pipe of 3", x.pipe(3, 0, 1), 8000);
        due("flow of 1", x.pipe(1, 0, 0), 320);
        x.mend(1, 0, 5);
        due("pipe of 1", x.pipe(1, 0, 1), 1600);
        due("flow of the works", x.pipe(0, 0, 0), 1);
        x.stock(1, 0, 1);
        due("want of 1", x.pipe(1, 0, 2), 600);
        x.stock(1, 0, 1);
        due("want of 1", x.pipe(1, 0, 2), 0);
        due("want of 3", x.pipe(3, 0, 2), 8000);
        due("rate of 1", x.pipe(1, 0, 3), 20);
        due("rate of 3", x.pipe(3, 0, 3), 4000);
    }

    private static void worth() {
        SpareShelves x = chain();
        x.stock(0, 0, 2);
        due("two of 10", x.worth(), 20);
        x.stock(2, 1, 3);
        due("three of 50", x.worth(), 170);
        x.fails(2, 1, 2);
        due("one scrapped, one bought", x.worth(), 170);
        x.fails(2, 1, 0);
        x.days(60);
        due("what breaks is worth as much", x.worth(), 170);
        x.rate(0, 0, 300);
        due("choose()", x.choose(), 0);
        due("one of 10 more", x.worth(), 180);
    }

    private static void count() {
        SpareShelves x = chain();
        for (int wild : WILD) {
            due("count " + wild, x.count(wild), NONE);
        }
        due("count(-1)", x.count(-1), NONE);
        due("count(7)", x.count(7), NONE);
        x.stock(0, 0, 2);
        x.fails(2, 0, 0);
        x.fails(1, 1, 2);
        x.fails(0, 1, 1);
        // due: broken kind 0, good kind 0 for shelf 1, bought kind 1, mend and mend of its core
        int[] first = {2, 3, 0, 5, 5, 3, 0};
        for (int what = 0; what < 7; what++) {
            due("count(" + what + ")", x.count(what), first[what]);
        }
        x.days(4);
        int[] then = {2, 3, 4, 4, 5, 3, 12};
        for (int what = 0; what < 7; what++) {
            due("count(" + what + ")", x.count(what), then[what]);
        }
    }
}
