/**
 * For each promise a test that quotes all of it, with ordinary calls in one small TOWN. The answers were worked out from
 * the document by hand, those of draws by a program of another language. The edges have tests of their own.
 */
public final class PromiseTest {
    private static final int NONE = NamesAgain.NONE;
    // NAMES a 0, b 1, c 2; SOULS p 0 and q 1, who are called a and b, r 2 and s 3, who wait.
    private static final String TOWN = "name a 10;name b 21;name c 5;debt a 7;debt b 3;feast a 2;feast b 3;"
        + "soul p 30 called a;soul q 50 called b;soul r 8;soul s 40;"
        + "wish p b;wish q a;worth r c 9;worth s c 6;old q 4;";

    public static void main(String[] args) {
        Edges.run(PromiseTest.class);
    }

    private static NamesAgain town() {
        return Check.town(TOWN);
    }

    private static void eq(String what, int got, int due) {
        Check.eq(what, got, due);
    }

    /** At the end of MONDAY 0 p was called a, q b; of MONDAY 1 p b, q a; of MONDAY 2 p nothing, q a. */
    private static NamesAgain past() {
        NamesAgain x = town();
        x.mondays(1);
        x.swap(0, 1);
        x.mondays(1);
        x.flee(0);
        x.mondays(1);
        return x;
    }

    @Says("An empty TOWN; an empty tape.")
    private static void promise01() {
        NamesAgain x = new NamesAgain();
        eq("NAMES", x.count(0), 0);
        eq("SOULS", x.count(1), 0);
        eq("bytes", x.count(2), 0);
        eq("the MONDAY", x.now(0), 0);
    }

    @Says("Twenty bytes come behind the tape, of each number the highest first: how many it has; NONE, and none come, if it would have more than 940.")
    private static void promise02() {
        NamesAgain x = new NamesAgain();
        eq("'name n 42;soul s 7; '", x.feed(0x6e616d65, 0x206e2034, 0x323b736f, 0x756c2073, 0x20373b20), 20);
        eq("two LINES", x.town(), 2);
        eq("PRICE of n", x.name(0, 0), 42);
        eq("purse of s", x.soul(0, 1), 7);
        for (int i = 1; i <= 47; i++) {
            eq("fed " + i, x.feed(0, 0, 0, 0, 0), 20 * i);
        }
        eq("more than 940", x.feed(0, 0, 0, 0, 0), NONE);
        eq("none came", x.count(2), 940);
    }

    @Says("The tape has its first n bytes alone: true; false, if it has not so many, or n is below 0.")
    private static void promise03() {
        NamesAgain x = new NamesAgain();
        x.feed(0x6e616d65, 0x206e2034, 0x323b736f, 0x756c2073, 0x20373b20);
        Check.is("not so many", !x.end(21));
        Check.is("below 0", !x.end(-1));
        Check.is("ten", x.end(10));
        eq("bytes", x.count(2), 10);
        Check.is("eleven are gone", !x.end(11));
        eq("the first ones", x.town(), 1);
        Check.is("an empty tape", x.end(0));
    }

    @Says("The tape (empty then, here and below) is the TOWN now: how many LINES; -1 less the place of a FAULT: it stays.")
    private static void promise04() {
        NamesAgain x = new NamesAgain();
        Check.put(x, TOWN);
        eq("LINES", x.town(), 16);
        eq("the tape", x.count(2), 0);
        Check.put(x, "name d 10;name e 100;");
        eq("a PRICE above 99", x.town(), -1 - 17);
        eq("the tape", x.count(2), 0);
        eq("the TOWN stays", x.count(0), 3);
        Check.put(x, "name d 10;");
        eq("another one", x.town(), 1);
        eq("NAMES now", x.count(0), 1);
        eq("SOULS now", x.count(1), 0);
    }

    @Says("The kind of the FAULT of the latest town(), roll() or sentence() (a roll() of -1000 leaves it); 0 without one and ahead of any.")
    private static void promise05() {
        NamesAgain x = new NamesAgain();
        eq("ahead of any", x.fault(), 0);
        Check.put(x, "name d 100;");
        x.town();
        eq("of town()", x.fault(), 2);
        Check.put(x, TOWN);
        x.town();
        eq("without one", x.fault(), 0);
        eq("nobody told", Check.roll(x, "x dies;", 0), -2);
        eq("of roll()", x.fault(), 3);
        x.roll(2);
        eq("left", x.fault(), 3);
        Check.sentence(x, "alive alive");
        eq("of sentence()", x.fault(), 1);
        Check.sentence(x, "alive");
        eq("without one", x.fault(), 0);
    }

    @Says("Of a NAME: 0 PRICE, 1 COST now, 2 what it owes, 3 who is called so (NONE), 4 sour (1, 0), 5 MONDAYS for which it is a hanged one's yet, 6 EVERY (NONE). NONE: no such ones.")
    private static void promise06() {
        NamesAgain x = town();
        int[][] due = {{10, 10, 7, 0, 0, 0, 2}, {21, 21, 3, 1, 0, 0, 3}, {5, 5, 0, NONE, 0, 0, NONE}};
        for (int n = 0; n < 3; n++) {
            for (int what = 0; what < 7; what++) {
                eq("name(" + n + ", " + what + ")", x.name(n, what), due[n][what]);
            }
        }
        x.flee(0);
        eq("a is sour", x.name(0, 4), 1);
        x.die(1, 1);
        eq("PRICE of b", x.name(1, 0), 21);
        eq("COST of b", x.name(1, 1), 10);
        eq("who is called b", x.name(1, 3), NONE);
        eq("b is a hanged one's", x.name(1, 5), 12);
        x.mondays(5);
        eq("b is a hanged one's yet", x.name(1, 5), 7);
        eq("no NAME", x.name(3, 0), NONE);
        eq("no what", x.name(0, 7), NONE);
    }

    @Says("Of a SOUL: 0 its NAME (NONE), 1 purse, 2 alive (1, 0), 3 its wish (NONE), 4 how many wait ahead of it (NONE: it does not wait), 5 whether it has changed on this MONDAY, 6 whether it fled at some time (1, 0), 7 feasts. NoSuchElementException: no such ones.")
    private static void promise07() {
        NamesAgain x = town();
        int[][] due = {{0, 30, 1, 1, NONE, 0, 0, 0}, {1, 50, 1, 0, NONE, 0, 0, 0}, {NONE, 8, 1, NONE, 0, 0, 0, 0}, {NONE, 40, 1, NONE, 1, 0, 0, 0}};
        for (int s = 0; s < 4; s++) {
            for (int what = 0; what < 8; what++) {
                eq("soul(" + s + ", " + what + ")", x.soul(s, what), due[s][what]);
            }
        }
        x.swap(0, 1);
        eq("p has changed", x.soul(0, 5), 1);
        x.mondays(1);
        eq("p has not changed", x.soul(0, 5), 0);
        eq("a feast of b fell on p", x.soul(0, 7), 1);
        eq("it cost p two", x.soul(0, 1), 28);
        x.flee(0);
        eq("p is called nothing", x.soul(0, 0), NONE);
        eq("p fled", x.soul(0, 6), 1);
        eq("r and s wait ahead of p", x.soul(0, 4), 2);
        x.die(3, 0);
        eq("s is dead", x.soul(3, 2), 0);
        eq("s does not wait", x.soul(3, 4), NONE);
        eq("r waits ahead of p", x.soul(0, 4), 1);
        Check.is("no SOUL", Check.throwsNoSuch(x, 4, 0));
        Check.is("no what", Check.throwsNoSuch(x, 0, 8));
    }

    @Says("What a NAME is WORTH to a SOUL (0: nothing told); NONE: no such ones.")
    private static void promise08() {
        NamesAgain x = town();
        eq("c to r", x.worth(2, 2), 9);
        eq("c to s", x.worth(3, 2), 6);
        eq("a to r", x.worth(2, 0), 0);
        eq("no SOUL", x.worth(4, 2), NONE);
        eq("no NAME", x.worth(2, 3), NONE);
    }

    @Says("0 the MONDAY (200: all are over), 1 who live, as bits, 2 free NAMES, as bits, 3 how many wait, 4 all purses, 5 all that NAMES owe, 6 who fled, as bits. NONE for another what.")
    private static void promise09() {
        NamesAgain x = town();
        int[] due = {0, 0b1111, 0b100, 2, 128, 10, 0, NONE};
        for (int what = 0; what < due.length; what++) {
            eq("now(" + what + ")", x.now(what), due[what]);
        }
        x.pay(0, 4);
        x.flee(0);
        x.die(1, 0);
        int[] later = {0, 0b1101, 0b111, 3, 124, 6, 0b1};
        for (int what = 0; what < later.length; what++) {
            eq("now(" + what + ") later", x.now(what), later[what]);
        }
        x.mondays(60);
        eq("the MONDAY", x.now(0), 60);
        for (int i = 0; i < 3; i++) {
            x.mondays(60);
        }
        eq("all are over", x.now(0), 200);
    }

    @Says("A SOUL TAKES a NAME: 0, or why not; NONE: no such ones.")
    private static void promise10() {
        NamesAgain x = town();
        eq("p is called something", x.take(0, 2), 2);
        eq("a is not free", x.take(2, 0), 3);
        eq("r waits ahead of s", x.take(3, 2), 5);
        eq("r takes c", x.take(2, 2), 0);
        eq("r is called c", x.soul(2, 0), 2);
        eq("r paid 5", x.soul(2, 1), 3);
        x.flee(1);
        eq("b is sour", x.take(3, 1), 4);
        x.die(0, 0);
        eq("p is dead", x.take(0, 0), 1);
        eq("s takes a", x.take(3, 0), 0);
        eq("s paid 10", x.soul(3, 1), 30);
        eq("no SOUL", x.take(4, 0), NONE);
        eq("no NAME", x.take(3, 3), NONE);
        NamesAgain y = Check.town("name n 11;soul s 10;");
        eq("its purse is below the COST", y.take(0, 0), 6);
    }

    @Says("Two SWAP: 0, or why not; NONE: no such ones, alike.")
    private static void promise11() {
        NamesAgain x = town();
        eq("r is called nothing", x.swap(0, 2), 2);
        eq("p and q", x.swap(0, 1), 0);
        eq("p is called b", x.soul(0, 0), 1);
        eq("q is called a", x.soul(1, 0), 0);
        eq("who is called a", x.name(0, 3), 1);
        eq("purses stay", x.now(4), 128);
        eq("they have changed", x.swap(1, 0), 3);
        x.die(2, 0);
        eq("r is dead", x.swap(0, 2), 1);
        eq("alike", x.swap(0, 0), NONE);
        eq("no SOUL", x.swap(0, 4), NONE);
    }

    @Says("The first SELLS to the second: 0, or why not; NONE: no such ones, alike.")
    private static void promise12() {
        NamesAgain x = town();
        eq("q is called something", x.sell(0, 1), 2);
        eq("r is called nothing", x.sell(2, 3), 2);
        eq("r's purse is below PRICE", x.sell(0, 2), 4);
        eq("p sells to s", x.sell(0, 3), 0);
        eq("p's purse", x.soul(0, 1), 40);
        eq("s's purse", x.soul(3, 1), 30);
        eq("s is called a", x.soul(3, 0), 0);
        eq("p waits behind r", x.soul(0, 4), 1);
        eq("p has changed", x.sell(1, 0), 3);
        x.die(2, 0);
        eq("r is dead", x.sell(1, 2), 1);
        eq("alike", x.sell(1, 1), NONE);
        eq("no SOUL", x.sell(1, 4), NONE);
    }

    @Says("It DIES (how 0), HANGS (1): 0, or why not; NONE: no such ones.")
    private static void promise13() {
        NamesAgain x = town();
        eq("p dies", x.die(0, 0), 0);
        eq("a is free", x.name(0, 3), NONE);
        eq("a is no hanged one's", x.name(0, 5), 0);
        eq("a owes yet", x.name(0, 2), 7);
        eq("p is dead", x.die(0, 1), 1);
        eq("q hangs", x.die(1, 1), 0);
        eq("b is free", x.name(1, 3), NONE);
        eq("b is a hanged one's", x.name(1, 5), 12);
        eq("r, who waits, dies", x.die(2, 0), 0);
        eq("s waits alone", x.now(3), 1);
        eq("no SOUL", x.die(4, 0), NONE);
        eq("no how", x.die(3, 2), NONE);
    }

    @Says("It FLEES: 0, or why not; NONE: no such one.")
    private static void promise14() {
        NamesAgain x = town();
        eq("p flees", x.flee(0), 0);
        eq("a is free", x.name(0, 3), NONE);
        eq("a is sour", x.name(0, 4), 1);
        eq("p waits behind all", x.soul(0, 4), 2);
        eq("p is called nothing", x.flee(0), 2);
        x.take(2, 2);
        eq("r has changed", x.flee(2), 3);
        x.die(1, 0);
        eq("q is dead", x.flee(1), 1);
        eq("no SOUL", x.flee(4), NONE);
    }

    @Says("It PAYS n (1 to 99): 0, or why not; NONE: no such ones.")
    private static void promise15() {
        NamesAgain x = town();
        eq("above what a owes", x.pay(0, 8), 3);
        eq("p pays 5", x.pay(0, 5), 0);
        eq("a owes", x.name(0, 2), 2);
        eq("p's purse", x.soul(0, 1), 25);
        eq("r is called nothing", x.pay(2, 1), 2);
        x.die(0, 0);
        eq("p is dead", x.pay(0, 1), 1);
        eq("no SOUL", x.pay(4, 1), NONE);
        eq("no such sum", x.pay(1, 0), NONE);
        eq("no such sum", x.pay(1, 100), NONE);
        NamesAgain y = Check.town("name n 1;debt n 50;soul s 9 called n;");
        eq("its purse is below 10", y.pay(0, 10), 4);
        eq("it pays 9", y.pay(0, 9), 0);
    }

    @Says("A LOT for a NAME, by a seed: who has it; NONE: no such one, -2: 1, -3: 2 as above.")
    private static void promise16() {
        NamesAgain x = town();
        eq("c is not sour", x.lot(2, 5), -2);
        x.flee(0);
        // r, s, p wait. Seed 5: 5 * 1103515245 + 12345 wraps to 1222621274, 4775864 without its last 8 bits, 2 of 3.
        eq("a lot for a", x.lot(0, 5), 0);
        eq("p is called a", x.soul(0, 0), 0);
        eq("for nothing", x.soul(0, 1), 30);
        eq("it is sour no more", x.name(0, 4), 0);
        x.undo();
        // Seed 0: 12345, 48 without its last 8 bits, 0 of 3.
        eq("another lot for a", x.lot(0, 0), 2);
        x.undo();
        // Seed -1: 3191464396 as a number without a sign, 12466657, 1 of 3.
        eq("a third lot for a", x.lot(0, -1), 3);
        eq("no NAME", x.lot(3, 5), NONE);
        NamesAgain y = Check.town("name n 1;soul s 1 called n;");
        y.flee(0);
        y.die(0, 0);
        eq("nobody waits", y.lot(0, 5), -3);
    }

    @Says("n (1 to 60) MONDAYS go by: how many did; NONE: not as told.")
    private static void promise17() {
        NamesAgain x = town();
        eq("four", x.mondays(4), 4);
        eq("feasts of a on MONDAYS 0, 2", x.soul(0, 7), 2);
        eq("feasts of b on MONDAYS 0, 3", x.soul(1, 7), 2);
        eq("p's purse", x.soul(0, 1), 26);
        eq("none", x.mondays(0), NONE);
        eq("too many", x.mondays(61), NONE);
        for (int i = 0; i < 3; i++) {
            eq("sixty", x.mondays(60), 60);
        }
        eq("what is left", x.mondays(60), 16);
        eq("nothing is left", x.mondays(1), 0);
    }

    @Says("The latest of take(), swap(), sell(), die(), flee(), pay(), lot() that was done, mondays() above 0, drawn() above 0, a ROLL that was lived is undone: how many more can be (4 at most are kept); NONE: none is.")
    private static void promise18() {
        NamesAgain x = town();
        eq("nothing was done", x.undo(), NONE);
        x.pay(0, 1);
        x.take(2, 2);
        x.take(2, 2);
        x.swap(0, 1);
        eq("the swap is undone", x.undo(), 2);
        eq("p is called a", x.soul(0, 0), 0);
        x.mondays(3);
        x.drawn(2, 9);
        Check.roll(x, "p dies;q dies;", 1);
        eq("the ROLL is undone", x.undo(), 3);
        eq("all live", x.now(1) & 0b11, 0b11);
        eq("the draws are undone", x.undo(), 2);
        eq("the MONDAY", x.now(0), 3);
        eq("three MONDAYS are undone", x.undo(), 1);
        eq("the MONDAY", x.now(0), 0);
        eq("the taking is undone", x.undo(), 0);
        eq("c is free", x.name(2, 3), NONE);
        eq("the payment is the fifth and not kept", x.undo(), NONE);
        eq("a owes", x.name(0, 2), 6);
    }

    @Says("What a SOUL was called at the end of a MONDAY: the NAME, NONE: nothing; -2: no such ones (yet).")
    private static void promise19() {
        NamesAgain x = past();
        int[][] due = {{0, 1, NONE, -2}, {1, 0, 0, -2}, {NONE, NONE, NONE, -2}, {NONE, NONE, NONE, -2}, {-2, -2, -2, -2}};
        for (int s = 0; s < 5; s++) {
            for (int m = 0; m < 4; m++) {
                eq("called(" + s + ", " + m + ")", x.called(s, m), due[s][m]);
            }
        }
    }

    @Says("Who was called a NAME then: the SOUL, NONE: nobody; -2: no such ones (yet).")
    private static void promise20() {
        NamesAgain x = past();
        int[][] due = {{0, 1, 1, -2}, {1, 0, NONE, -2}, {NONE, NONE, NONE, -2}, {-2, -2, -2, -2}};
        for (int n = 0; n < 4; n++) {
            for (int m = 0; m < 4; m++) {
                eq("holder(" + n + ", " + m + ")", x.holder(n, m), due[n][m]);
            }
        }
    }

    @Says("How many unlike SOULS were called a NAME at the ends of MONDAYS so far; NONE: no such one.")
    private static void promise21() {
        NamesAgain x = past();
        eq("a: p, q, q", x.bearers(0), 2);
        eq("b: q, p", x.bearers(1), 2);
        eq("c: nobody", x.bearers(2), 0);
        x.take(2, 2);
        eq("c, MONDAY 3 has no end yet", x.bearers(2), 0);
        x.mondays(2);
        eq("c: r, r", x.bearers(2), 1);
        eq("no NAME", x.bearers(3), NONE);
    }

    @Says("At how many MONDAYS' ends a SOUL was called a NAME; NONE: no such ones.")
    private static void promise22() {
        NamesAgain x = past();
        int[][] due = {{1, 1, 0}, {2, 1, 0}, {0, 0, 0}, {0, 0, 0}};
        for (int s = 0; s < 4; s++) {
            for (int n = 0; n < 3; n++) {
                eq("howLong(" + s + ", " + n + ")", x.howLong(s, n), due[s][n]);
            }
        }
        eq("no SOUL", x.howLong(4, 0), NONE);
        eq("no NAME", x.howLong(0, 3), NONE);
    }

    private static NamesAgain ringOfThree() {
        return Check.town("name a 1;name b 1;name c 1;soul p 1 called a;soul q 1 called b;soul r 1 called c;wish p b;wish q c;wish r a;");
    }

    @Says("WISHES: how many MONDAYS; NONE: never.")
    private static void promise23() {
        NamesAgain x = town();
        eq("p and q swap", x.wishes(), 1);
        x.swap(0, 1);
        eq("each has its wish", x.wishes(), 0);
        x.die(1, 0);
        eq("q's wish is no more", x.wishes(), 0);
        eq("three", ringOfThree().wishes(), 2);
        NamesAgain y = town();
        y.die(1, 0);
        eq("nobody is called as p wishes", y.wishes(), NONE);
    }

    @Says("SWAPS: how many; NONE: never.")
    private static void promise24() {
        NamesAgain x = town();
        eq("p and q swap", x.swaps(), 1);
        x.swap(0, 1);
        eq("each has its wish", x.swaps(), 0);
        eq("three", ringOfThree().swaps(), 2);
        NamesAgain y = town();
        y.flee(0);
        eq("p is called nothing", y.swaps(), NONE);
    }

    @Says("With whom a SOUL swaps on the first of these MONDAYS, if one is enough (by the latest wishes(), of 1); NONE: nobody, no such one, or it was of something else.")
    private static void promise25() {
        NamesAgain x = town();
        eq("ahead of any", x.partner(0), NONE);
        x.wishes();
        int[] due = {1, 0, NONE, NONE, NONE};
        for (int s = 0; s < due.length; s++) {
            eq("partner(" + s + ")", x.partner(s), due[s]);
        }
        x.swap(0, 1);
        eq("the latest wishes()", x.partner(0), 1);
        x.wishes();
        eq("of 0", x.partner(0), NONE);
        NamesAgain y = ringOfThree();
        y.wishes();
        eq("of 2", y.partner(0), NONE);
    }

    @Says("BIDDING for a NAME: who has it; NONE: nobody bids, no such one.")
    private static void promise26() {
        NamesAgain x = town();
        eq("r bids its 8, s 6", x.bidder(2), 2);
        eq("nobody bids", x.bidder(0), NONE);
        eq("no NAME", x.bidder(3), NONE);
        x.die(2, 0);
        eq("s alone", x.bidder(2), 3);
    }

    @Says("For how much; NONE: nobody bids, no such one.")
    private static void promise27() {
        NamesAgain x = town();
        eq("r bids its 8, s 6", x.bid(2), 6);
        eq("nobody bids", x.bid(0), NONE);
        eq("no NAME", x.bid(3), NONE);
        x.die(2, 0);
        eq("s alone", x.bid(2), 0);
    }

    @Says("NAMES that are free by a MONDAY (0 to 199) at the latest, if nothing but deaths happens, as bits (those that are free now, too); NONE: not as told.")
    private static void promise28() {
        NamesAgain x = town();
        eq("c is free now", x.must(3), 0b100);
        eq("q is dead by MONDAY 4", x.must(4), 0b110);
        eq("p may live on", x.must(199), 0b110);
        eq("not as told", x.must(200), NONE);
        eq("not as told", x.must(-1), NONE);
        x.swap(0, 1);
        eq("q is called a now", x.must(4), 0b101);
    }

    private static int ledger(NamesAgain x, int... rows) {
        byte[] bytes = new byte[rows.length];
        for (int i = 0; i < rows.length; i++) {
            bytes[i] = (byte) rows[i];
        }
        Check.put(x, bytes);
        return x.ledger();
    }

    @Says("LEDGER: who, as bits; NONE: not as told (1 byte or more, no more than MONDAYS went, NAMES or 255).")
    private static void promise29() {
        NamesAgain x = past();
        eq("a, b, none", ledger(x, 0, 1, 255), 0b0001);
        eq("b, a, a", ledger(x, 1, 0, 0), 0b0010);
        eq("b", ledger(x, 1), 0b0010);
        eq("none, none", ledger(x, 255, 255), 0b1100);
        eq("c", ledger(x, 2), 0);
        eq("the tape", x.count(2), 0);
        eq("no byte", ledger(x), NONE);
        eq("more than MONDAYS went", ledger(x, 0, 1, 255, 255), NONE);
        eq("no NAME", ledger(x, 3), NONE);
    }

    @Says("Whether some SOULS (bits) have enough VOTES: 1, 0; NONE: no such ones.")
    private static void promise30() {
        NamesAgain x = town();
        eq("p and q, of three VOTES two", x.votes(0b0011), 1);
        eq("p alone", x.votes(0b0001), 0);
        eq("p with all who wait", x.votes(0b1101), 1);
        eq("p with one of those who wait", x.votes(0b0101), 0);
        eq("all who wait", x.votes(0b1100), 0);
        eq("nobody", x.votes(0), 0);
        eq("no SOUL", x.votes(0b10000), NONE);
        eq("no SOULS", x.votes(-1), NONE);
    }

    @Says("The fewest living SOULS who have enough (of like ones the least), as bits; NONE: none have.")
    private static void promise31() {
        NamesAgain x = town();
        eq("p and q", x.party(), 0b0011);
        x.die(1, 0);
        eq("p with all who wait", x.party(), 0b1101);
        eq("two of three", ringOfThree().party(), 0b011);
        eq("nobody is there", new NamesAgain().party(), NONE);
    }

    @Says("The least coin by which a SOUL that waits, if it were first, has a NAME now: COST of a free one that is not sour, or PRICE of one that is sold to it by somebody who has not changed; NONE: none, it does not wait, has changed (but for free ones), no such one.")
    private static void promise32() {
        NamesAgain x = town();
        eq("COST of c, for r", x.least(2), 5);
        eq("COST of c, for s behind r", x.least(3), 5);
        eq("p does not wait", x.least(0), NONE);
        eq("no SOUL", x.least(4), NONE);
        x.take(2, 2);
        eq("PRICE of a", x.least(3), 10);
        x.flee(0);
        eq("a is sour, PRICE of b", x.least(3), 21);
        eq("p has changed", x.least(0), NONE);
        x.die(2, 0);
        eq("p has changed, but c is free", x.least(0), 5);
    }

    @Says("Which NAME that is (of like ones the first), by the latest least() that was not NONE; NONE ahead of any.")
    private static void promise33() {
        NamesAgain x = town();
        eq("ahead of any", x.cheapest(), NONE);
        x.least(2);
        eq("c", x.cheapest(), 2);
        x.take(2, 2);
        x.least(3);
        eq("a", x.cheapest(), 0);
        x.least(0);
        eq("that was NONE", x.cheapest(), 0);
        NamesAgain y = Check.town("name a 9;name b 8;name c 8;soul s 9;");
        y.least(0);
        eq("the first of like ones", y.cheapest(), 1);
    }

    @Says("Feasts that fall on a NAME in n (1 to 99) MONDAYS from now on (till all are over); NONE: no such ones.")
    private static void promise34() {
        NamesAgain x = town();
        eq("a on MONDAY 0", x.feasts(0, 2), 1);
        eq("a on MONDAYS 0, 2", x.feasts(0, 3), 2);
        eq("b on MONDAYS 0, 3, 6", x.feasts(1, 9), 3);
        eq("c", x.feasts(2, 99), 0);
        x.mondays(1);
        eq("a on MONDAY 1", x.feasts(0, 1), 0);
        eq("b on MONDAYS 3, 6, 9", x.feasts(1, 9), 3);
        eq("no NAME", x.feasts(3, 1), NONE);
        eq("no MONDAYS", x.feasts(0, 0), NONE);
        eq("too many", x.feasts(0, 100), NONE);
        for (int i = 0; i < 3; i++) {
            x.mondays(60);
        }
        x.mondays(14);
        eq("a on MONDAYS 196, 198", x.feasts(0, 99), 2);
    }

    @Says("Who waits as the k-th (from 0); NONE: nobody.")
    private static void promise35() {
        NamesAgain x = town();
        x.flee(1);
        int[] due = {2, 3, 1, NONE};
        for (int k = 0; k < due.length; k++) {
            eq("queue(" + k + ")", x.queue(k), due[k]);
        }
        eq("nobody", x.queue(-1), NONE);
    }

    @Says("n (1 to 60) MONDAYS DRAWN by a seed: how many went by; NONE: not as told, no SOULS, no NAMES.")
    private static void promise36() {
        String one = "name n 1;soul s 5;";
        NamesAgain x = Check.town(one);
        eq("seed 4 draws 1 of 8, then n", x.drawn(1, 4), 1);
        eq("s took n", x.soul(0, 0), 0);
        eq("s's purse", x.soul(0, 1), 4);
        NamesAgain y = Check.town(one);
        eq("it goes on with 2 of 8", y.drawn(2, 4), 2);
        eq("s fled", y.now(6), 1);
        NamesAgain z = Check.town(one);
        eq("seed 8 draws 3 of 8, then 0 of 5", z.drawn(60, 8), 60);
        eq("s is dead", z.now(1), 0);
        NamesAgain two = Check.town("name a 1;name b 1;soul p 5 called a;soul q 5 called b;");
        eq("seed 56 draws 0 of 8, 1 of 2, then 7 of 8", two.drawn(1, 56), 1);
        eq("p and q swapped", two.soul(0, 0), 1);
        eq("no MONDAYS", x.drawn(0, 4), NONE);
        eq("too many", x.drawn(61, 4), NONE);
        eq("no SOULS", Check.town("name n 1;").drawn(1, 4), NONE);
        eq("no NAMES", Check.town("soul s 1;").drawn(1, 4), NONE);
    }

    @Says("Of n (1 to 30) seeds x, x and 1, .. by how many a SOUL is called something behind 20 MONDAYS DRAWN from now on; NONE: no such ones, no NAMES.")
    private static void promise37() {
        NamesAgain x = Check.town("name n 1;soul s 5;");
        eq("seeds 0 to 29", x.odds(0, 30, 0), 3);
        eq("seeds 7 to 16", x.odds(0, 10, 7), 1);
        eq("seeds -3 to 2", x.odds(0, 6, -3), 1);
        eq("seeds 1000 to 1029", x.odds(0, 30, 1000), 2);
        eq("all stays", x.now(0), 0);
        eq("no SOUL", x.odds(1, 1, 0), NONE);
        eq("no seeds", x.odds(0, 0, 0), NONE);
        eq("too many", x.odds(0, 31, 0), NONE);
        eq("no NAMES", Check.town("soul s 1;").odds(0, 1, 0), NONE);
    }

    @Says("The tape is a ROLL: it is judged, all staying as it is (lives 0), or lived as far as it is not WRONG (1): the LINE that is WRONG; NONE: none; -2 less the place of a FAULT; -1000: another lives (the tape stays).")
    private static void promise38() {
        NamesAgain x = town();
        String before = ActTest.all(x);
        eq("judged", Check.roll(x, "p swaps q;monday 2;r takes c;", 0), NONE);
        Check.is("all stays as it is", ActTest.all(x).equals(before));
        eq("judged, the second is WRONG", Check.roll(x, "p swaps q;s takes c;monday 2;", 0), 1);
        Check.is("all stays as it is", ActTest.all(x).equals(before));
        eq("lived", Check.roll(x, "p swaps q;monday 2;r takes c;", 1), NONE);
        eq("p is called b", x.soul(0, 0), 1);
        eq("the MONDAY", x.now(0), 2);
        eq("r is called c", x.soul(2, 0), 2);
        eq("lived as far as the third", Check.roll(x, "p pays 1;q dies;q dies;monday 2;", 1), 2);
        eq("b owes", x.name(1, 2), 2);
        eq("q is dead", x.soul(1, 2), 0);
        eq("the MONDAY", x.now(0), 2);
        eq("a FAULT", Check.roll(x, "p jumps;", 1), -2 - 2);
        Check.put(x, "p dies;");
        eq("another lives", x.roll(2), -1000);
        eq("the tape stays", x.count(2), 7);
        eq("it is a ROLL yet", x.roll(1), NONE);
        eq("p is dead", x.soul(0, 2), 0);
    }

    @Says("Of the latest roll() that had no FAULT (and was not -1000): 0 why it was WRONG (0: it was not; as for taking, 10 more as for swapping, 20 for selling, 30 for dying and hanging, 40 for fleeing, 50 for paying; 61 fewer MONDAYS are left; two alike: 9 more than its sort), 1 LINES that are not, 2 the MONDAY then, 3 how many wait then. NONE: another what, or ahead of any.")
    private static void promise39() {
        NamesAgain x = town();
        eq("ahead of any", x.rolled(0), NONE);
        String[] wrong = {"p takes c;", "p swaps r;", "p sells q;", "p dies;p dies;", "p hangs;p hangs;", "r flees;", "p pays 8;",
            "monday 60;monday 60;monday 60;monday 21;", "p swaps p;", "p sells p;", "p swaps q;"};
        int[] why = {2, 12, 22, 31, 31, 42, 53, 61, 19, 29, 0};
        int[] good = {0, 0, 0, 1, 1, 0, 0, 3, 0, 0, 1};
        for (int i = 0; i < wrong.length; i++) {
            Check.roll(x, wrong[i], 0);
            eq("why '" + wrong[i] + "'", x.rolled(0), why[i]);
            eq("LINES that are not WRONG of '" + wrong[i] + "'", x.rolled(1), good[i]);
        }
        Check.roll(x, "p flees;monday 3;s dies;s dies;monday 5;", 0);
        eq("why", x.rolled(0), 31);
        eq("LINES", x.rolled(1), 3);
        eq("the MONDAY then", x.rolled(2), 3);
        eq("r and p wait then", x.rolled(3), 2);
        Check.roll(x, "p jumps;", 0);
        x.roll(2);
        eq("the latest one without a FAULT", x.rolled(1), 3);
        eq("another what", x.rolled(4), NONE);
    }

    @Says("The tape is the SENTENCE now: how many ONES (each not, bracket and other one); -1 less the place of a FAULT: it stays.")
    private static void promise40() {
        NamesAgain x = town();
        eq("not, bracket, alive, waits", Check.sentence(x, "not (alive and waits)"), 4);
        eq("of p and q", x.said(NONE), 2);
        eq("a FAULT at the end", Check.sentence(x, "alive or"), -1 - 8);
        eq("it stays", x.said(NONE), 2);
        eq("another one", Check.sentence(x, "alive"), 1);
        eq("of all", x.said(NONE), 4);
    }

    @Says("SOULS of whom it may be said: how many (k NONE), or the k-th. NONE: there is no SENTENCE, none such.")
    private static void promise41() {
        NamesAgain x = town();
        eq("no SENTENCE", x.said(NONE), NONE);
        Object[][] due = {{"alive", 0b1111}, {"waits", 0b1100}, {"called a", 0b0001}, {"fled", 0}, {"glad", 0}, {"purse < 31", 0b0101},
            {"purse = 40", 0b1000}, {"owes > 3", 0b0001}, {"feasts = 0", 0b1111}, {"number > 1", 0b1100}, {"not waits and owes = 3", 0b0010},
            {"called a or called b and purse > 99", 0b0001}, {"(called a or called b) and purse > 40", 0b0010}};
        for (Object[] row : due) {
            Check.sentence(x, (String) row[0]);
            saidOf(x, (String) row[0], (Integer) row[1]);
        }
        x.swap(0, 1);
        Check.sentence(x, "glad");
        saidOf(x, "glad", 0b0011);
        x.mondays(1);
        Check.sentence(x, "feasts > 0");
        saidOf(x, "feasts > 0", 0b0011);
        x.flee(1);
        x.die(3, 0);
        Check.sentence(x, "fled or not alive");
        saidOf(x, "fled or not alive", 0b1010);
    }

    private static void saidOf(NamesAgain x, String text, int souls) {
        eq("how many: " + text, x.said(NONE), Integer.bitCount(souls));
        int k = 0;
        for (int s = 0; s < 4; s++) {
            if ((souls >> s & 1) == 1) {
                eq("the " + k + "-th: " + text, x.said(k), s);
                k++;
            }
        }
        eq("none such: " + text, x.said(k), NONE);
    }

    @Says("TOWN, all that is so and the SENTENCE are kept in place k (0, 1): true; false: no such one.")
    private static void promise42() {
        NamesAgain x = town();
        Check.sentence(x, "waits");
        String first = ActTest.all(x);
        Check.is("place 0", x.image(0));
        x.swap(0, 1);
        x.mondays(7);
        String second = ActTest.all(x);
        Check.is("place 1", x.image(1));
        Check.is("no such place", !x.image(2));
        Check.is("no such place", !x.image(-1));
        Check.is("all stays", ActTest.all(x).equals(second));
        Check.put(x, "name other 1;");
        x.town();
        x.restore(0);
        Check.is("as in place 0", ActTest.all(x).equals(first));
        eq("the SENTENCE", x.said(NONE), 2);
        x.restore(1);
        Check.is("as in place 1", ActTest.all(x).equals(second));
    }

    @Says("They are as kept in place k (the tape, and what other calls told last, stays; nothing can be undone): true; false: no such one, or nothing is kept there.")
    private static void promise43() {
        NamesAgain x = town();
        Check.is("nothing is kept there", !x.restore(0));
        String before = ActTest.all(x);
        x.image(0);
        x.least(2);
        x.wishes();
        Check.roll(x, "p jumps;", 0);
        Check.roll(x, "monday 3;p dies;p dies;", 0);
        x.flee(0);
        Check.put(x, "alive");
        Check.is("place 0", x.restore(0));
        Check.is("all is as kept", ActTest.all(x).equals(before));
        eq("the tape stays", x.count(2), 5);
        eq("what least() told", x.cheapest(), 2);
        eq("what wishes() told", x.partner(0), 1);
        eq("what roll() told", x.rolled(2), 3);
        eq("nothing can be undone", x.undo(), NONE);
        Check.is("once more", x.restore(0));
        Check.is("nothing is kept there", !x.restore(1));
        Check.is("no such place", !x.restore(2));
    }

    @Says("0 NAMES, 1 SOULS, 2 bytes of the tape. NONE for another what.")
    private static void promise44() {
        NamesAgain x = town();
        eq("NAMES", x.count(0), 3);
        eq("SOULS", x.count(1), 4);
        Check.put(x, "alive");
        eq("bytes", x.count(2), 5);
        eq("another what", x.count(3), NONE);
        eq("another what", x.count(-1), NONE);
    }
}
