/**
 * The order in which things are served and done, a method for each sentence of the document that tells one.
 *
 * Which of two things was done first is seen by a race: of two shelves each gets a good part on the same day,
 * and at each a mend waits for it as its core; the one that gets it first asks for the next one first.
 */
public final class OrderTest {
    private static final int PART = 0, WHOLE = 1, MACHINERY = 2;
    private static final int BY_MACHINE = 0, BY_SHELF = 1, BY_MEND = 2;
    private static final int PLAIN = 0, BY_CORE = 1, SCRAP = 2;

    private static int wrong = 0;
    private static String sentence = "";

    private static void says(String words) {
        sentence = words;
    }

    private static void due(String what, int got, int want) {
        if (got != want) {
            wrong++;
            System.out.println("\"" + sentence + "\": " + what + " is " + got + ", due is " + want);
        }
    }

    public static void main(String[] args) {
        asksAreServedAsTheyCame();
        anAskIsServedAtOnce();
        theFirstAskIsServedByWhatLands();
        everyWayToLandServes();
        stockLandsOneByOne();
        aPartGoesBackThenAsksGoUp();
        asksGoUpFromTheShelfThenItsUp();
        asksGoUpThenOneIsBought();
        aCoreGoesBackThenAsksGoUp();
        asksForACoreGoUpThenTheMendBegins();
        aCoreGoesBackThenTheMendBegins();
        servedAtOnceWithAllThatFollows();
        sentThenSent();
        sentThenBought();
        boughtThenSent();
        begunThenSent();
        sentThenBegun();
        aMendThatWaitedBeginsWhenServed();
        standingIsCountedBehindWhatIsDue();
        eachDayIsWholeAheadOfTheNext();
        System.out.println(wrong == 0 ? "all is done in its order" : wrong + " answers are not as due");
        if (wrong != 0) {
            System.exit(1);
        }
    }

    /** A part, a whole that has it as its core, a machinery that has the whole as its core; 50 days to buy one. */
    private static SpareShelves kinds() {
        SpareShelves x = new SpareShelves();
        x.kind(1, 50, -1);
        x.kind(1, 50, PART);
        x.kind(1, 50, WHOLE);
        return x;
    }

    /** A mend of a kind waits at a shelf for its core, ahead of all that ask for the core there later. */
    private static void mendWaits(SpareShelves x, int s, int k) {
        x.mend(s, k, 30);
        due("the machine", x.fails(s, k, BY_CORE), 0);
        due("mends that wait at " + s, x.about(s, k, 4), 1);
    }

    /** Asks go up from a shelf to another one and no farther, for that one mends the kind just then. */
    private static void asksGoUpAsFarAs(SpareShelves x, int s, int end, int k) {
        x.mend(end, k, 30);
        x.fails(s, k, PLAIN);
        x.mend(end, k, 0);
    }

    private static void askIs(SpareShelves x, int s, int k, int i, int by, int who) {
        due("ask " + i + " at " + s + " is by", x.ask(s, k, i, 0), by);
        due("ask " + i + " at " + s + " is for", x.ask(s, k, i, 2), who);
    }

    private static void asksAreServedAsTheyCame() {
        says("a row of ASKS for it, served in the order in which they came");
        SpareShelves x = kinds();
        x.shelf(0, 1);
        x.fails(0, PART, SCRAP);
        x.fails(1, PART, SCRAP);
        x.fails(0, WHOLE, BY_CORE);
        x.fails(0, PART, SCRAP);
        int[] by = {BY_MACHINE, BY_SHELF, BY_MEND, BY_MACHINE};
        for (int served = 0; served < by.length; served++) {
            due("asks that wait", x.about(0, PART, 1), by.length - served);
            for (int i = served; i < by.length; i++) {
                due("ask " + (i - served), x.ask(0, PART, i - served, 0), by[i]);
            }
            due("good ones that lie there", x.stock(0, PART, 1), 0);
        }
        due("asks that wait", x.about(0, PART, 1), 0);
        due("good ones that lie there", x.stock(0, PART, 1), 1);
        // the mend asked ahead of the machine and of the shelf
        SpareShelves y = kinds();
        y.shelf(0, 1);
        y.fails(0, WHOLE, BY_CORE);
        y.fails(1, PART, SCRAP);
        y.fails(0, PART, SCRAP);
        y.stock(0, PART, 1);
        due("mends that go on", y.about(0, WHOLE, 3), 1);
        askIs(y, 0, PART, 0, BY_SHELF, 1);
        askIs(y, 0, PART, 1, BY_MACHINE, SpareShelves.NONE);
    }

    private static void anAskIsServedAtOnce() {
        says("If there is a GOOD one when an ASK comes, it is served at once");
        SpareShelves x = kinds();
        x.shelf(0, 1);
        x.stock(0, PART, 3);
        due("the machine goes on", x.fails(0, PART, PLAIN), 1);
        due("good ones", x.about(0, PART, 0), 2);
        due("the machine stands", x.fails(1, PART, PLAIN), 0);
        due("on the way to 1", x.about(1, PART, 5), 1);
        due("good ones", x.about(0, PART, 0), 1);
        x.fails(0, WHOLE, BY_CORE);
        due("the mend goes on", x.about(0, WHOLE, 3), 1);
        due("good ones", x.about(0, PART, 0), 0);
        due("the last one went", x.fails(0, PART, PLAIN), 0);
    }

    private static void theFirstAskIsServedByWhatLands() {
        says("when a GOOD one LANDS on a SHELF, the first ASK for it there is served, if there is one");
        SpareShelves x = kinds();
        x.shelf(0, 1);
        x.fails(0, PART, SCRAP);
        x.fails(0, PART, SCRAP);
        due("it does not lie there", x.stock(0, PART, 1), 0);
        due("one alone is served", x.about(0, PART, 2), 1);
        due("one of another kind lies there", x.stock(0, WHOLE, 1), 1);
        due("one on another shelf lies there", x.stock(1, PART, 1), 1);
        due("no other is served", x.about(0, PART, 2), 1);
    }

    private static void everyWayToLandServes() {
        says("a GOOD one LANDS: stocked, chosen, from the WAY, mended, bought");
        SpareShelves x = kinds();
        x.shelf(0, 1);
        due("a machine stands", x.fails(1, PART, SCRAP), 0);
        x.stock(1, PART, 1);
        due("stocked: machines that stand at 1", x.field(1, 2), 0);
        due("a machine stands", x.fails(1, PART, SCRAP), 0);
        x.rate(1, PART, 1);
        x.mend(1, PART, 30);
        due("chosen for shelf 1", x.choose(), 8);
        x.mend(1, PART, 0);
        due("chosen: machines that stand at 1", x.field(1, 2), 0);
        due("a machine stands", x.fails(1, PART, SCRAP), 0);
        x.stock(0, PART, 1);
        due("on the way", x.field(1, 2), 1);
        x.days(1);
        due("from the way: machines that stand at 1", x.field(1, 2), 0);
        x.mend(1, PART, 2);
        due("a machine stands", x.fails(1, PART, PLAIN), 0);
        x.days(2);
        due("mended: machines that stand at 1", x.field(1, 2), 0);
        SpareShelves y = kinds();
        due("a machine stands", y.fails(0, PART, SCRAP), 0);
        y.days(50);
        due("bought: machines that stand at the works", y.field(0, 2), 0);
    }

    private static void stockLandsOneByOne() {
        says("n GOOD ones of a KIND are bought and LAND on a SHELF, one by one");
        SpareShelves x = kinds();
        x.shelf(0, 1);
        x.shelf(1, 1);
        mendWaits(x, 1, WHOLE);
        x.fails(2, PART, SCRAP);
        due("one of three lies there", x.stock(1, PART, 3), 1);
        due("the mend goes on", x.about(1, WHOLE, 3), 1);
        due("one is on the way to 2", x.about(2, PART, 5), 1);
        due("asks of 1 at the works", x.about(0, PART, 1), 2);
    }

    /** At 3 and at 4 mends wait for a part; 1 and 4 are below the works, 2 below 1, 3 below 2, each a day away. */
    private static SpareShelves longRace() {
        SpareShelves x = kinds();
        x.shelf(0, 1);
        x.shelf(1, 1);
        x.shelf(2, 1);
        x.shelf(0, 1);
        x.mend(0, PART, 1);
        mendWaits(x, 3, WHOLE);
        mendWaits(x, 4, WHOLE);
        return x;
    }

    private static void aPartGoesBackThenAsksGoUp() {
        says("it GOES BACK from s. .. ASKS go up");
        SpareShelves x = longRace();
        asksGoUpAsFarAs(x, 3, 1, PART);
        x.stock(0, PART, 1);
        // tomorrow the broken one comes to the works and the good one to 1
        x.fails(1, PART, PLAIN);
        x.fails(4, PART, SCRAP);
        x.days(1);
        due("mends at the works", x.about(0, PART, 3), 1);
        due("on the way to 2", x.about(2, PART, 5), 1);
        x.days(1);
        due("on the way to 4", x.about(4, PART, 5), 1);
        due("on the way to 3", x.about(3, PART, 5), 1);
        x.days(1);
        due("asks at the works", x.about(0, PART, 1), 2);
        askIs(x, 0, PART, 0, BY_SHELF, 4);
        askIs(x, 0, PART, 1, BY_SHELF, 1);
    }

    private static void asksGoUpFromTheShelfThenItsUp() {
        says("ASKS go up: from s, then its UP, and so on");
        SpareShelves x = kinds();
        x.shelf(0, 1);
        x.shelf(1, 1);
        x.shelf(2, 1);
        x.shelf(1, 1);
        mendWaits(x, 3, WHOLE);
        mendWaits(x, 4, WHOLE);
        asksGoUpAsFarAs(x, 3, 2, PART);
        x.stock(1, PART, 1);
        x.stock(0, PART, 1);
        // tomorrow a good one comes to 2 and one to 1
        x.fails(2, PART, SCRAP);
        due("on the way to 2 and to 1", x.about(2, PART, 5) * 10 + x.about(1, PART, 5), 11);
        x.fails(4, PART, SCRAP);
        x.days(1);
        due("on the way to 3 and to 4", x.about(3, PART, 5) * 10 + x.about(4, PART, 5), 11);
        x.days(1);
        due("asks at 1", x.about(1, PART, 1), 2);
        askIs(x, 1, PART, 0, BY_SHELF, 2);
        askIs(x, 1, PART, 1, BY_SHELF, 4);
    }

    private static void asksGoUpThenOneIsBought() {
        says("for SCRAP the WORKS BUYS one");
        SpareShelves x = new SpareShelves();
        x.kind(1, 1, -1);
        x.kind(1, 50, PART);
        x.shelf(0, 1);
        x.shelf(1, 1);
        x.shelf(0, 1);
        mendWaits(x, 2, WHOLE);
        mendWaits(x, 3, WHOLE);
        x.stock(0, PART, 1);
        // tomorrow a good one comes to 1, and the bought one to the works
        x.fails(2, PART, SCRAP);
        x.fails(3, PART, PLAIN);
        due("on the way to 1", x.about(1, PART, 5), 1);
        due("bought", x.about(0, PART, 7), 1);
        x.days(1);
        due("on the way to 2 and to 3", x.about(2, PART, 5) * 10 + x.about(3, PART, 5), 11);
        x.days(1);
        due("asks at the works", x.about(0, PART, 1), 2);
        askIs(x, 0, PART, 0, BY_SHELF, 1);
        askIs(x, 0, PART, 1, BY_SHELF, 3);
    }

    private static void aCoreGoesBackThenAsksGoUp() {
        says("the broken CORE GOES BACK from that SHELF, as PLAIN, ASKS go up for it");
        SpareShelves x = longRace();
        mendWaits(x, 1, WHOLE);
        asksGoUpAsFarAs(x, 3, 1, PART);
        x.stock(0, PART, 1);
        // the mend at 1 gets its core: tomorrow the broken one comes to the works and a good one to 1
        x.stock(1, PART, 1);
        due("mends that go on at 1", x.about(1, WHOLE, 3), 1);
        due("on the way to the works and to 1", x.about(0, PART, 6) * 10 + x.about(1, PART, 5), 11);
        x.fails(4, PART, SCRAP);
        x.days(1);
        x.days(1);
        due("on the way to 3 and to 4", x.about(3, PART, 5) * 10 + x.about(4, PART, 5), 11);
        x.days(1);
        due("asks at the works", x.about(0, PART, 1), 2);
        askIs(x, 0, PART, 0, BY_SHELF, 4);
        askIs(x, 0, PART, 1, BY_SHELF, 1);
    }

    /**
     * Shelf 1 mends wholes in a day; 2 and 4 are below it, 3 below 2, all a day away. At 3 and 4 mends of a
     * machinery wait for a whole, 3 asks for one at 2, then 2 and 4 at 1.
     */
    private static SpareShelves raceForWholes() {
        SpareShelves x = kinds();
        x.shelf(0, 1);
        x.shelf(1, 1);
        x.shelf(2, 1);
        x.shelf(1, 1);
        x.mend(1, WHOLE, 1);
        mendWaits(x, 3, MACHINERY);
        mendWaits(x, 4, MACHINERY);
        x.fails(3, WHOLE, SCRAP);
        x.fails(4, WHOLE, SCRAP);
        return x;
    }

    /** Of two mends at 1 the first has its core; tomorrow the second gets one, then the first is done. */
    private static void coreAheadOfWhole(SpareShelves x) {
        due("asks of 2 and 4", x.about(1, WHOLE, 1), 2);
        x.fails(1, WHOLE, BY_CORE);
        x.fails(1, WHOLE, BY_CORE);
        due("a mend goes on, one waits", x.about(1, WHOLE, 3) * 10 + x.about(1, WHOLE, 4), 11);
        x.days(1);
        due("the second goes on", x.about(1, WHOLE, 3) * 10 + x.about(1, WHOLE, 4), 10);
        due("the first one's is on the way to 2", x.about(2, WHOLE, 5), 1);
        x.days(1);
        due("on the way to 3 and to 4", x.about(3, WHOLE, 5) * 10 + x.about(4, WHOLE, 5), 11);
        x.days(1);
        due("asks at 1", x.about(1, WHOLE, 1), 4);
        askIs(x, 1, WHOLE, 2, BY_SHELF, 4);
        askIs(x, 1, WHOLE, 3, BY_SHELF, 2);
    }

    private static void asksForACoreGoUpThenTheMendBegins() {
        says("ASKS go up for it, then the MEND begins");
        SpareShelves x = raceForWholes();
        x.stock(1, PART, 1);
        x.stock(0, PART, 1);
        coreAheadOfWhole(x);
    }

    private static void aCoreGoesBackThenTheMendBegins() {
        says("the broken CORE GOES BACK from that SHELF, .. then the MEND begins");
        SpareShelves x = raceForWholes();
        x.mend(1, PART, 1);
        x.stock(1, PART, 1);
        coreAheadOfWhole(x);
    }

    private static void servedAtOnceWithAllThatFollows() {
        says("What is served at once, is so at once, with all that follows from it, ahead of what comes next");
        SpareShelves x = kinds();
        x.shelf(0, 1);
        x.shelf(1, 1);
        x.mend(2, WHOLE, 5);
        x.stock(2, PART, 1);
        x.stock(1, PART, 1);
        // all in one call: the mend takes a core, 1 serves 2, the works are asked by 1, the mend begins
        x.fails(2, WHOLE, BY_CORE);
        due("the core is taken", x.about(2, PART, 0), 0);
        due("the broken core is on its way", x.about(0, PART, 6), 1);
        due("1 served 2", x.about(1, PART, 0) * 10 + x.about(2, PART, 5), 1);
        askIs(x, 0, PART, 0, BY_SHELF, 1);
        due("since", x.ask(0, PART, 0, 1), 0);
        due("the mend goes on", x.about(2, WHOLE, 3), 1);
        x.stock(0, PART, 1);
        due("one call behind, the works serve 1", x.about(1, PART, 5), 1);
    }

    /** Shelf 1 is so many days from the works, 2 a day from 1, 3 a day from the works; mends wait for a part at 2 and 3. */
    private static SpareShelves race(int daysToBuy, int wayOfOne) {
        SpareShelves x = new SpareShelves();
        x.kind(1, daysToBuy, -1);
        x.kind(1, 50, PART);
        x.shelf(0, wayOfOne);
        x.shelf(1, 1);
        x.shelf(0, 1);
        mendWaits(x, 2, WHOLE);
        mendWaits(x, 3, WHOLE);
        return x;
    }

    /** Good parts just left the works for 3 and shelf 1 for 2; the one that left first comes first, and its shelf asks first. */
    private static void endOfRace(SpareShelves x, int first, int second) {
        due("on the way to 2 and to 3", x.about(2, PART, 5) * 10 + x.about(3, PART, 5), 11);
        x.days(1);
        due("asks at the works", x.about(0, PART, 1), 2);
        askIs(x, 0, PART, 0, BY_SHELF, first);
        askIs(x, 0, PART, 1, BY_SHELF, second);
    }

    private static void sentThenSent() {
        says("all that is due at TIME is done, in the order in which it was sent");
        for (int far = 1; far <= 2; far++) {
            brokenOnesRace(far, 3 - far);
            goodOnesRace(far, 3 - far);
        }
    }

    /** One shelf is 5 days from the works, the other 3. */
    private static SpareShelves farAndNear(int far) {
        SpareShelves x = kinds();
        x.shelf(0, far == 1 ? 5 : 3);
        x.shelf(0, far == 2 ? 5 : 3);
        return x;
    }

    /** The part from far away is sent two days earlier, so both come on the same day, and there is no core. */
    private static void brokenOnesRace(int far, int near) {
        SpareShelves x = farAndNear(far);
        due("another kind with the same core", x.kind(1, 50, PART), 3);
        int[] kindAt = {0, WHOLE, 3};
        x.fails(far, kindAt[far], BY_CORE);
        x.days(2);
        x.fails(near, kindAt[near], BY_CORE);
        x.days(3);
        askIs(x, 0, PART, 0, BY_MEND, kindAt[far]);
        askIs(x, 0, PART, 1, BY_MEND, kindAt[near]);
    }

    private static void goodOnesRace(int far, int near) {
        SpareShelves x = farAndNear(far);
        mendWaits(x, far, WHOLE);
        mendWaits(x, near, WHOLE);
        x.stock(0, PART, 1);
        x.fails(far, PART, SCRAP);
        x.days(2);
        x.stock(0, PART, 1);
        x.fails(near, PART, SCRAP);
        due("on the way to both", x.about(far, PART, 5) * 10 + x.about(near, PART, 5), 11);
        x.days(3);
        due("asks at the works", x.about(0, PART, 1), 2);
        askIs(x, 0, PART, 0, BY_SHELF, far);
        askIs(x, 0, PART, 1, BY_SHELF, near);
    }

    private static void sentThenBought() {
        says("in the order in which it was sent, begun, bought: sent, then bought");
        SpareShelves x = race(3, 5);
        x.stock(0, PART, 1);
        x.fails(2, PART, PLAIN);
        x.days(2);
        x.fails(3, PART, SCRAP);
        x.days(3);
        endOfRace(x, 1, 3);
    }

    private static void boughtThenSent() {
        says("in the order in which it was sent, begun, bought: bought, then sent");
        SpareShelves x = race(5, 3);
        x.stock(0, PART, 1);
        x.fails(0, PART, SCRAP);
        x.days(2);
        x.stock(0, PART, 1);
        x.fails(2, PART, PLAIN);
        x.fails(3, PART, PLAIN);
        x.days(3);
        endOfRace(x, 3, 1);
    }

    private static void begunThenSent() {
        says("in the order in which it was sent, begun, bought: begun, then sent");
        SpareShelves x = race(50, 5);
        x.stock(0, PART, 1);
        x.fails(0, PART, PLAIN);
        x.days(5);
        x.stock(0, PART, 1);
        x.fails(2, PART, PLAIN);
        x.fails(3, PART, PLAIN);
        x.days(5);
        endOfRace(x, 3, 1);
    }

    private static void sentThenBegun() {
        says("in the order in which it was sent, begun, bought: sent, then begun");
        SpareShelves x = race(50, 20);
        x.stock(0, PART, 1);
        x.fails(2, PART, PLAIN);
        x.days(10);
        x.stock(0, PART, 1);
        x.fails(0, PART, PLAIN);
        x.fails(3, PART, SCRAP);
        x.days(10);
        endOfRace(x, 1, 3);
    }

    private static void aMendThatWaitedBeginsWhenServed() {
        says("when that is served, .. then the MEND begins");
        SpareShelves x = kinds();
        x.fails(0, WHOLE, BY_CORE);
        x.days(4);
        due("waits", x.about(0, WHOLE, 4), 1);
        x.stock(0, PART, 1);
        x.days(9);
        due("ten days from then on", x.about(0, WHOLE, 3), 1);
        x.days(1);
        due("done", x.about(0, WHOLE, 3) + x.field(0, 2), 0);
        due("stood", x.field(0, 3), 13);
    }

    private static void standingIsCountedBehindWhatIsDue() {
        says("Behind that each machine that STANDS has STOOD one day more");
        SpareShelves x = kinds();
        x.mend(0, PART, 1);
        x.fails(0, PART, PLAIN);
        due("none on the day itself", x.field(0, 3), 0);
        x.days(1);
        due("served on the next day, it has not stood", x.field(0, 3) * 10 + x.field(0, 2), 0);
        x.mend(0, PART, 2);
        x.fails(0, PART, PLAIN);
        x.fails(0, PART, PLAIN);
        x.days(1);
        due("each of two has stood a day", x.field(0, 3), 2);
        x.days(1);
        due("and no more", x.field(0, 3), 2);
    }

    private static void eachDayIsWholeAheadOfTheNext() {
        says("So many DAYS go by");
        SpareShelves x = kinds();
        SpareShelves y = kinds();
        for (SpareShelves z : new SpareShelves[] {x, y}) {
            z.shelf(0, 2);
            z.fails(1, WHOLE, BY_CORE);
            z.fails(1, PART, PLAIN);
            z.fails(0, PART, SCRAP);
        }
        x.days(60);
        for (int day = 1; day <= 60; day++) {
            due("days(1)", y.days(1), day);
        }
        for (int what = 0; what < 7; what++) {
            due("count(" + what + ")", y.count(what), x.count(what));
        }
        for (int what = 0; what < 9; what++) {
            due("all(0, " + what + ")", y.all(PART, what), x.all(PART, what));
            due("all(1, " + what + ")", y.all(WHOLE, what), x.all(WHOLE, what));
        }
        due("stood", x.count(6) > 0 ? 1 : 0, 1);
    }
}
