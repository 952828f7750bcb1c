/** The edges of what is asked (the document's part 3) and of promises 19 to 37. */
public final class EdgeAskTest {
    private static final int NONE = NamesAgain.NONE;
    private static final int[] FAR = {Integer.MIN_VALUE, -2, -1, 9, 10, 31, 32, 1000, Integer.MAX_VALUE};
    private static final String FOUR = "name a 1;name b 1;name c 1;name d 1;name e 1;"
        + "soul p 1 called a;soul q 1 called b;soul r 1 called c;soul s 1 called d;soul t 1;";
    private static final String NINE_NAMES = "name a 1;name b 1;name c 1;name d 1;name e 1;name f 1;name g 1;name h 1;name i 1;";
    private static final String NINE_CALLED = NINE_NAMES + "soul sa 1 called a;soul sb 1 called b;soul sc 1 called c;soul sd 1 called d;"
        + "soul se 1 called e;soul sf 1 called f;soul sg 1 called g;soul sh 1 called h;soul si 1 called i;";

    public static void main(String[] args) {
        Edges.run(EdgeAskTest.class);
    }

    private static String all(NamesAgain x) {
        return ActTest.all(x);
    }

    /** MONDAY 0: p a, q b, r waits; 1: p b, q a; 2: p fled, q a; 3: q is dead, r is called b. */
    private static NamesAgain past() {
        NamesAgain x = Check.town("name a 1;name b 1;name c 1;soul p 9 called a;soul q 9 called b;soul r 9;");
        x.mondays(1);
        x.swap(0, 1);
        x.mondays(1);
        x.flee(0);
        x.mondays(1);
        x.die(1, 0);
        x.take(2, 2);
        x.mondays(1);
        return x;
    }

    private static NamesAgain over(String text) {
        NamesAgain x = Check.town(text);
        for (int i = 0; i < 4; i++) {
            x.mondays(50);
        }
        return x;
    }

    // Promises 19 to 22

    @Says("What a SOUL was called at the end of a MONDAY: the NAME, NONE: nothing; -2: no such ones (yet).")
    private static void p19Called() {
        NamesAgain x = past();
        int[][] due = {{0, 1, NONE, NONE}, {1, 0, 0, NONE}, {NONE, NONE, NONE, 2}};
        for (int s = 0; s < 3; s++) {
            for (int m = 0; m < 4; m++) {
                Check.eq("called(" + s + ", " + m + ")", x.called(s, m), due[s][m]);
            }
            for (int m : new int[] {4, 5, 199, 200, 1000, -1, Integer.MIN_VALUE, Integer.MAX_VALUE}) {
                Check.eq("called(" + s + ", " + m + ")", x.called(s, m), -2);
            }
        }
        for (int far : FAR) {
            Check.eq("called(" + far + ", 0)", x.called(far, 0), -2);
        }
        Check.eq("called(3, 0)", x.called(3, 0), -2);
        x.undo();
        Check.eq("undone, it is not yet", x.called(0, 3), -2);
        Check.eq("the one ahead is", x.called(0, 2), NONE);
    }

    @Says("What a SOUL was called at the end of a MONDAY: the NAME, NONE: nothing; -2: no such ones (yet).")
    private static void p19LastMonday() {
        NamesAgain x = over("name a 1;soul p 9 called a;");
        Check.eq("199", x.called(0, 199), 0);
        Check.eq("200", x.called(0, 200), -2);
        NamesAgain nine = Check.town(NINE_CALLED);
        nine.mondays(1);
        for (int s = 0; s < 9; s++) {
            Check.eq("all nine", nine.called(s, 0), s);
            Check.eq("all nine", nine.holder(s, 0), s);
        }
    }

    @Says("Who was called a NAME then: the SOUL, NONE: nobody; -2: no such ones (yet).")
    private static void p20Holder() {
        NamesAgain x = past();
        int[][] due = {{0, 1, 1, NONE}, {1, 0, NONE, NONE}, {NONE, NONE, NONE, 2}};
        for (int n = 0; n < 3; n++) {
            for (int m = 0; m < 4; m++) {
                Check.eq("holder(" + n + ", " + m + ")", x.holder(n, m), due[n][m]);
            }
            for (int m : new int[] {4, 5, 199, 200, -1, Integer.MIN_VALUE, Integer.MAX_VALUE}) {
                Check.eq("holder(" + n + ", " + m + ")", x.holder(n, m), -2);
            }
        }
        for (int far : FAR) {
            Check.eq("holder(" + far + ", 0)", x.holder(far, 0), -2);
        }
        Check.eq("holder(3, 0)", x.holder(3, 0), -2);
        NamesAgain last = over("name a 1;soul p 9 called a;");
        Check.eq("199", last.holder(0, 199), 0);
        Check.eq("200", last.holder(0, 200), -2);
    }

    @Says("How many unlike SOULS were called a NAME at the ends of MONDAYS so far; NONE: no such one.")
    private static void p21Bearers() {
        NamesAgain x = past();
        Check.eq("a", x.bearers(0), 2);
        Check.eq("b", x.bearers(1), 2);
        Check.eq("c", x.bearers(2), 1);
        for (int far : FAR) {
            Check.eq("bearers(" + far + ")", x.bearers(far), NONE);
        }
        Check.eq("bearers(3)", x.bearers(3), NONE);
        NamesAgain y = Check.town("name a 1;name b 1;soul p 9 called a;soul q 9 called b;");
        Check.eq("no MONDAY went", y.bearers(0), 0);
        y.swap(0, 1);
        Check.eq("at the ends alone", y.bearers(0), 0);
        y.mondays(1);
        Check.eq("one", y.bearers(0), 1);
        y.mondays(60);
        Check.eq("one, often", y.bearers(0), 1);
    }

    @Says("At how many MONDAYS' ends a SOUL was called a NAME; NONE: no such ones.")
    private static void p22HowLong() {
        NamesAgain x = past();
        int[][] due = {{1, 1, 0}, {2, 1, 0}, {0, 0, 1}};
        for (int s = 0; s < 3; s++) {
            for (int n = 0; n < 3; n++) {
                Check.eq("howLong(" + s + ", " + n + ")", x.howLong(s, n), due[s][n]);
            }
        }
        for (int far : FAR) {
            Check.eq("howLong(" + far + ", 0)", x.howLong(far, 0), NONE);
            Check.eq("howLong(0, " + far + ")", x.howLong(0, far), NONE);
        }
        Check.eq("howLong(3, 0)", x.howLong(3, 0), NONE);
        Check.eq("howLong(0, 3)", x.howLong(0, 3), NONE);
        NamesAgain last = over("name a 1;soul p 9 called a;");
        Check.eq("all of them", last.howLong(0, 0), 200);
        Check.eq("none yet", Check.town("name a 1;soul p 9 called a;").howLong(0, 0), 0);
    }

    // Promises 23 to 25

    private static void wishes(String wishes, int mondays, int swaps) {
        NamesAgain x = Check.town(FOUR + wishes);
        Check.eq("wishes of " + wishes, x.wishes(), mondays);
        Check.eq("swaps of " + wishes, x.swaps(), swaps);
    }

    @Says("WISHES: the fewest MONDAYS of swaps (one for each SOUL on each) behind which each living SOUL that has a wish is called so")
    private static void p23Fewest() {
        wishes("", 0, 0);
        wishes("wish p a;wish q b;", 0, 0);
        wishes("wish p b;", 1, 1);
        wishes("wish p b;wish q a;", 1, 1);
        wishes("wish p b;wish r d;", 1, 2);
        wishes("wish p b;wish q c;", 2, 2);
        wishes("wish p b;wish q c;wish r a;", 2, 2);
        wishes("wish p b;wish q c;wish r d;wish s a;", 2, 3);
        wishes("wish p b;wish q a;wish r c;wish s d;", 1, 1);
    }

    @Says("WISHES: the fewest MONDAYS of swaps (one for each SOUL on each)")
    private static void p23Nine() {
        StringBuilder ring = new StringBuilder(NINE_CALLED);
        for (int s = 0; s < 9; s++) {
            ring.append("wish s").append((char) ('a' + s)).append(' ').append((char) ('a' + (s + 1) % 9)).append(';');
        }
        NamesAgain x = Check.town(ring.toString());
        Check.eq("a ring of nine", x.wishes(), 2);
        Check.eq("eight swaps", x.swaps(), 8);
        Check.eq("no one is enough", x.partner(0), NONE);
    }

    @Says("never, if one of them is called nothing")
    private static void p23CalledNothing() {
        wishes("wish t a;", NONE, NONE);
        wishes("wish t e;", NONE, NONE);
        NamesAgain x = Check.town(FOUR + "wish p b;");
        x.flee(0);
        Check.eq("it has fled", x.wishes(), NONE);
        Check.eq("it has fled", x.swaps(), NONE);
    }

    @Says("or nobody is called as one wishes")
    private static void p23NobodyCalled() {
        wishes("wish p e;", NONE, NONE);
        NamesAgain x = Check.town(FOUR + "wish p b;");
        x.die(1, 0);
        Check.eq("who was is dead", x.wishes(), NONE);
        Check.eq("who was is dead", x.swaps(), NONE);
    }

    @Says("or two wish one.")
    private static void p23TwoWishOne() {
        wishes("wish p c;wish q c;", NONE, NONE);
        wishes("wish p a;wish q a;", NONE, NONE);
        NamesAgain x = Check.town(FOUR + "wish p c;wish q c;");
        x.die(0, 0);
        Check.eq("one of them is dead", x.wishes(), 1);
        Check.eq("one swap", x.swaps(), 1);
    }

    @Says("each living SOUL that has a wish")
    private static void p23DeadOnes() {
        NamesAgain x = Check.town(FOUR + "wish t a;wish p b;");
        Check.eq("never", x.wishes(), NONE);
        x.die(4, 0);
        Check.eq("a dead one's wish is none", x.wishes(), 1);
        x.die(0, 0);
        Check.eq("no wish is left", x.wishes(), 0);
        Check.eq("no swap", x.swaps(), 0);
    }

    @Says("WISHES: the fewest MONDAYS of swaps (one for each SOUL on each)")
    private static void p23WhoHasChanged() {
        NamesAgain x = Check.town(FOUR + "wish p b;wish q c;");
        x.swap(0, 1);
        Check.eq("q has changed on this MONDAY", x.wishes(), 1);
        Check.eq("and swaps", x.swaps(), 1);
        Check.eq("with r", x.partner(1), 2);
    }

    @Says("WISHES: how many MONDAYS; NONE: never.")
    private static void p23Stays() {
        NamesAgain x = Check.town(FOUR + "wish p b;wish q c;");
        String ahead = all(x);
        x.wishes();
        x.swaps();
        Check.is("all stays", all(x).equals(ahead));
        Check.eq("nothing to undo", x.undo(), NONE);
    }

    @Says("SWAPS: the fewest swaps in all.")
    private static void fewestSwaps() {
        // Who gets whose NAME: each ring needs one swap fewer than it has SOULS.
        String[] wishes = {"bcdefghia", "badcfehgi", "bcaefdhig", "bcdaefghi", "bcdeafghi", "bcdeaghif", "abcdefghi", "ibcdefgha", "ihgfedcba"};
        int[] due = {8, 4, 6, 3, 4, 7, 0, 1, 4};
        int[] mondays = {2, 1, 2, 2, 2, 2, 0, 1, 1};
        for (int i = 0; i < wishes.length; i++) {
            StringBuilder text = new StringBuilder(NINE_CALLED);
            for (int s = 0; s < 9; s++) {
                text.append("wish s").append((char) ('a' + s)).append(' ').append(wishes[i].charAt(s)).append(';');
            }
            NamesAgain x = Check.town(text.toString());
            Check.eq("swaps of " + wishes[i], x.swaps(), due[i]);
            Check.eq("MONDAYS of " + wishes[i], x.wishes(), mondays[i]);
        }
    }

    @Says("SWAPS: how many; NONE: never.")
    private static void p24Swaps() {
        String[] told = {"", "wish p a;", "wish p b;", "wish p b;wish q a;", "wish p b;wish q a;wish r d;wish s c;", "wish p b;wish q c;wish r d;",
            "wish s c;wish r b;wish q a;", "wish p d;wish s b;wish q c;", "wish t a;", "wish p e;", "wish p c;wish q c;"};
        int[] due = {0, 0, 1, 1, 2, 3, 3, 3, NONE, NONE, NONE};
        for (int i = 0; i < told.length; i++) {
            Check.eq("swaps of " + told[i], Check.town(FOUR + told[i]).swaps(), due[i]);
        }
        NamesAgain x = Check.town(FOUR + "wish p b;wish q c;wish r d;wish s a;");
        for (int left = 3; left > 0; left--) {
            Check.eq("left", x.swaps(), left);
            Check.eq("swapped", x.swap(3 - left, 4 - left), 0);
            x.mondays(1);
        }
        Check.eq("none is left", x.swaps(), 0);
    }

    @Says("With whom a SOUL swaps on the first of these MONDAYS, if one is enough (by the latest wishes(), of 1)")
    private static void p25Partner() {
        NamesAgain x = Check.town(FOUR + "wish p b;wish r d;wish s c;");
        Check.eq("ahead of any", x.partner(0), NONE);
        Check.eq("1", x.wishes(), 1);
        int[] due = {1, 0, 3, 2, NONE};
        for (int s = 0; s < 5; s++) {
            Check.eq("partner(" + s + ")", x.partner(s), due[s]);
        }
        x.swap(0, 1);
        x.swaps();
        Check.eq("swaps() is not asked", x.partner(0), 1);
        Check.eq("again 1", x.wishes(), 1);
        Check.eq("nobody now", x.partner(0), NONE);
        Check.eq("r yet", x.partner(2), 3);
    }

    @Says("NONE: nobody, no such one, or it was of something else.")
    private static void p25None() {
        NamesAgain x = Check.town(FOUR + "wish p b;");
        x.wishes();
        for (int far : FAR) {
            Check.eq("partner(" + far + ")", x.partner(far), NONE);
        }
        Check.eq("partner(5)", x.partner(5), NONE);
        Check.eq("nobody", x.partner(2), NONE);
        x.swap(0, 1);
        x.wishes();
        Check.eq("of 0", x.partner(0), NONE);
        x.undo();
        x.wishes();
        Check.eq("of 1", x.partner(0), 1);
        x.die(1, 0);
        x.wishes();
        Check.eq("of never", x.partner(0), NONE);
        NamesAgain two = Check.town(FOUR + "wish p b;wish q c;wish s d;");
        Check.eq("2", two.wishes(), 2);
        for (int s = 0; s < 5; s++) {
            Check.eq("of 2", two.partner(s), NONE);
        }
    }

    // Promises 26 and 27

    private static void bidding(String text, int bidder, int bid) {
        NamesAgain x = Check.town("name a 50;name b 1;" + text);
        Check.eq("bidder of " + text, x.bidder(0), bidder);
        Check.eq("bid of " + text, x.bid(0), bid);
    }

    @Says("BIDDING for a NAME: each who waits bids what it is WORTH to it (0 without: it does not bid), its purse at most")
    private static void p26Bids() {
        bidding("soul p 99;", NONE, NONE);
        bidding("soul p 99;worth p b 9;", NONE, NONE);
        bidding("soul p 99;worth p a 1;", 0, 0);
        bidding("soul p 99 called b;worth p a 9;", NONE, NONE);
        bidding("soul p 99 called b;soul q 9;worth p a 9;worth q a 1;", 1, 0);
        bidding("soul p 5;soul q 9;worth p a 99;worth q a 6;", 1, 5);
        bidding("soul p 6;soul q 9;worth p a 99;worth q a 5;", 0, 5);
        bidding("soul p 999;soul q 999;worth p a 99;worth q a 98;", 0, 98);
        bidding("soul p 0;soul q 1;worth p a 99;worth q a 1;", 1, 0);
        bidding("soul p 0;worth p a 99;", 0, 0);
    }

    @Says("who bids most has it (of like ones who waits ahead), for the second most (0 without).")
    private static void p26Most() {
        bidding("soul p 9;soul q 9;soul r 9;worth p a 3;worth q a 5;worth r a 4;", 1, 4);
        bidding("soul p 9;soul q 9;soul r 9;worth p a 5;worth q a 3;worth r a 4;", 0, 4);
        bidding("soul p 9;soul q 9;soul r 9;worth p a 3;worth q a 4;worth r a 5;", 2, 4);
        bidding("soul p 9;soul q 9;worth q a 5;worth p a 5;", 0, 5);
        bidding("soul p 9;soul q 9;soul r 9;worth p a 3;worth q a 5;worth r a 5;", 1, 5);
        NamesAgain x = Check.town("name a 5;name b 1;soul p 9 called b;soul q 9;soul r 9;worth p a 5;worth r a 5;");
        x.flee(0);
        Check.eq("who waits ahead, not the first told", x.bidder(0), 2);
        Check.eq("for as much", x.bid(0), 5);
    }

    @Says("BIDDING for a NAME: who has it; NONE: nobody bids, no such one.")
    private static void p26None() {
        NamesAgain x = Check.town("name a 5;soul p 9;worth p a 5;");
        for (int far : FAR) {
            Check.eq("bidder(" + far + ")", x.bidder(far), NONE);
            Check.eq("bid(" + far + ")", x.bid(far), NONE);
        }
        Check.eq("bidder(1)", x.bidder(1), NONE);
        Check.eq("bid(1)", x.bid(1), NONE);
        Check.eq("one bids", x.bidder(0), 0);
        String ahead = all(x);
        x.bid(0);
        Check.is("all stays", all(x).equals(ahead));
        x.take(0, 0);
        Check.eq("it waits no more", x.bidder(0), NONE);
        Check.eq("it waits no more", x.bid(0), NONE);
        Check.eq("without SOULS", Check.town("name a 5;").bidder(0), NONE);
        Check.eq("without SOULS", Check.town("name a 5;").bid(0), NONE);
    }

    @Says("For how much; NONE: nobody bids, no such one.")
    private static void p27Bid() {
        NamesAgain x = Check.town("name a 50;name b 1;soul p 9;soul q 9;soul r 2;worth p a 3;worth q a 7;worth r a 99;worth r b 1;");
        Check.eq("the second most", x.bid(0), 3);
        Check.eq("one bids alone", x.bid(1), 0);
        x.die(0, 0);
        Check.eq("a purse of 2", x.bid(0), 2);
        x.die(1, 0);
        Check.eq("alone", x.bid(0), 0);
        x.die(2, 0);
        Check.eq("nobody bids", x.bid(0), NONE);
        Check.eq("nobody bids", x.bid(1), NONE);
        Check.eq("no such one", x.bid(2), NONE);
        Check.eq("no such one", x.bid(-1), NONE);
    }

    @Says("BIDDING for a NAME: each who waits bids")
    private static void p26DeadOnes() {
        NamesAgain x = Check.town("name a 5;soul p 9;soul q 9;worth p a 9;worth q a 5;");
        Check.eq("p", x.bidder(0), 0);
        x.die(0, 0);
        Check.eq("a dead one does not", x.bidder(0), 1);
        Check.eq("nor for the second most", x.bid(0), 0);
    }

    // Promise 28

    @Says("NAMES that are free by a MONDAY (0 to 199) at the latest, if nothing but deaths happens, as bits (those that are free now, too)")
    private static void p28Must() {
        NamesAgain x = Check.town("name a 1;name b 1;name c 1;name d 1;soul p 1 called a;soul q 1 called b;soul r 1 called c;soul s 1;"
            + "old p 0;old q 7;old s 3;");
        Check.eq("0", x.must(0), 9);
        Check.eq("6", x.must(6), 9);
        Check.eq("7", x.must(7), 11);
        Check.eq("199: who is not old never", x.must(199), 11);
        x.swap(1, 2);
        Check.eq("by who has it now", x.must(7), 13);
        x.die(0, 0);
        Check.eq("a dead one's, too", x.must(0), 9);
        x.mondays(60);
        Check.eq("of a MONDAY that went", x.must(0), 9);
        Check.eq("who is old lives yet", x.must(7), 13);
        x.flee(2);
        Check.eq("sour ones are free", x.must(0), 11);
    }

    @Says("NONE: not as told.")
    private static void p28NotAsTold() {
        NamesAgain x = Check.town("name a 1;soul p 1 called a;old p 199;");
        for (int m : new int[] {-1, 200, 201, 1000, Integer.MIN_VALUE, Integer.MAX_VALUE}) {
            Check.eq("must(" + m + ")", x.must(m), NONE);
        }
        Check.eq("198", x.must(198), 0);
        Check.eq("199", x.must(199), 1);
        Check.eq("of nine", Check.town(NINE_CALLED).must(0), 0);
        Check.eq("nine free", Check.town(NINE_NAMES).must(0), 511);
    }

    // Promise 29

    private static int ledger(NamesAgain x, int... row) {
        byte[] bytes = new byte[row.length];
        for (int i = 0; i < row.length; i++) {
            bytes[i] = (byte) row[i];
        }
        Check.put(x, bytes);
        return x.ledger();
    }

    @Says("LEDGER by the tape: NAMES, one for each MONDAY from 0 on (255: none): who of all SOULS was called just so then, at the end.")
    private static void p29Ledger() {
        NamesAgain x = past();
        Check.eq("p", ledger(x, 0), 1);
        Check.eq("p", ledger(x, 0, 1, 255, 255), 1);
        Check.eq("q, a dead one", ledger(x, 1, 0, 0, 255), 2);
        Check.eq("r", ledger(x, 255, 255, 255, 2), 4);
        Check.eq("nobody", ledger(x, 0, 0), 0);
        Check.eq("nobody", ledger(x, 0, 1, 255, 2), 0);
        Check.eq("nobody", ledger(x, 2), 0);
        NamesAgain waits = Check.town("soul p 1;soul q 1;");
        waits.mondays(2);
        waits.die(0, 0);
        Check.eq("two alike", ledger(waits, 255, 255), 3);
    }

    @Says("NONE: not as told (1 byte or more, no more than MONDAYS went, NAMES or 255).")
    private static void p29NotAsTold() {
        NamesAgain x = past();
        Check.eq("no byte", ledger(x), NONE);
        Check.eq("four of four", ledger(x, 255, 255, 255, 255), 0);
        Check.eq("five of four", ledger(x, 255, 255, 255, 255, 255), NONE);
        Check.eq("the last NAME", ledger(x, 2), 0);
        Check.eq("3 is no NAME", ledger(x, 3), NONE);
        Check.eq("nor behind others", ledger(x, 0, 1, 3), NONE);
        for (int row : new int[] {4, 9, 10, 32, 127, 128, 254}) {
            Check.eq(row + " is no NAME", ledger(x, row), NONE);
        }
        Check.eq("no MONDAY went", ledger(Check.town("name a 1;soul p 1 called a;"), 0), NONE);
        NamesAgain none = new NamesAgain();
        none.mondays(1);
        Check.eq("no SOULS", ledger(none, 255), 0);
        Check.eq("no NAMES", ledger(none, 0), NONE);
    }

    @Says("no more than MONDAYS went")
    private static void p29Longest() {
        NamesAgain x = over("name a 1;soul p 1 called a;soul q 1;");
        int[] row = new int[200];
        Check.eq("200 of 200", ledger(x, row), 1);
        row[199] = 255;
        Check.eq("another on the last one", ledger(x, row), 0);
        Check.eq("201 of 200", ledger(x, new int[201]), NONE);
        Check.eq("940", ledger(x, new int[940]), NONE);
    }

    // Promises 30 and 31

    @Says("VOTES: each who lives and is called something has one")
    private static void p30Called() {
        NamesAgain x = Check.town("name a 1;name b 1;name c 1;soul p 1 called a;soul q 1 called b;soul r 1 called c;");
        int[] due = {0, 0, 0, 1, 0, 1, 1, 1};
        for (int set = 0; set < 8; set++) {
            Check.eq("votes(" + set + ")", x.votes(set), due[set]);
        }
        x.die(0, 0);
        Check.eq("one of two", x.votes(2), 0);
        Check.eq("a dead one has none", x.votes(3), 0);
        Check.eq("two of two", x.votes(6), 1);
        x.die(1, 0);
        Check.eq("one of one", x.votes(4), 1);
        x.die(2, 0);
        Check.eq("none of none", x.votes(7), 0);
    }

    @Says("all who wait have one together, if they all are for it")
    private static void p30Waiting() {
        NamesAgain x = Check.town("name a 1;name b 1;soul p 1 called a;soul q 1 called b;soul r 1;soul s 1;");
        Check.eq("p and all who wait", x.votes(13), 1);
        Check.eq("p and one of them", x.votes(5), 0);
        Check.eq("p and the other", x.votes(9), 0);
        Check.eq("those who wait alone", x.votes(12), 0);
        Check.eq("p and q", x.votes(3), 1);
        x.die(3, 0);
        Check.eq("who waits no more is not asked", x.votes(5), 1);
        NamesAgain waits = Check.town("soul r 1;soul s 1;");
        Check.eq("none is called", waits.votes(3), 1);
        Check.eq("not all", waits.votes(1), 0);
        Check.eq("nobody", waits.votes(0), 0);
    }

    @Says("more than half of all (the one of those who wait counts, if somebody waits) is enough.")
    private static void p30Half() {
        NamesAgain even = Check.town("name a 1;soul p 1 called a;soul r 1;");
        Check.eq("one of two", even.votes(1), 0);
        Check.eq("one of two", even.votes(2), 0);
        Check.eq("both", even.votes(3), 1);
        even.die(1, 0);
        Check.eq("nobody waits: one of one", even.votes(1), 1);
        NamesAgain nine = Check.town(NINE_CALLED);
        Check.eq("four of nine", nine.votes(15), 0);
        Check.eq("five of nine", nine.votes(31), 1);
        Check.eq("other five", nine.votes(496), 1);
        nine.flee(8);
        Check.eq("four of eight and one", nine.votes(15), 0);
        Check.eq("four and those who wait", nine.votes(15 + 256), 1);
    }

    @Says("Whether some SOULS (bits) have enough VOTES: 1, 0; NONE: no such ones.")
    private static void p30NoSuch() {
        NamesAgain x = Check.town("name a 1;soul p 1 called a;soul q 1;");
        for (int set : new int[] {-1, 4, 5, 8, 512, 1 << 30, Integer.MIN_VALUE, Integer.MAX_VALUE}) {
            Check.eq("votes(" + set + ")", x.votes(set), NONE);
        }
        Check.eq("nobody is somebody", x.votes(0), 0);
        NamesAgain nine = Check.town(NINE_CALLED);
        Check.eq("all nine", nine.votes(511), 1);
        Check.eq("a tenth", nine.votes(512), NONE);
        Check.eq("no SOULS", new NamesAgain().votes(1), NONE);
    }

    @Says("The fewest living SOULS who have enough (of like ones the least), as bits; NONE: none have.")
    private static void p31Party() {
        NamesAgain nine = Check.town(NINE_CALLED);
        Check.eq("the first five", nine.party(), 31);
        nine.die(0, 0);
        Check.eq("five of eight", nine.party(), 62);
        nine.die(2, 0);
        Check.eq("four of seven", nine.party(), 2 + 8 + 16 + 32);
        NamesAgain waits = Check.town("name a 1;soul p 1;soul q 1;soul r 1;soul s 1 called a;");
        Check.eq("all", waits.party(), 15);
        waits.die(0, 0);
        waits.die(3, 0);
        Check.eq("all who wait", waits.party(), 6);
        waits.die(1, 0);
        waits.die(2, 0);
        Check.eq("none live", waits.party(), NONE);
        Check.eq("no SOULS", new NamesAgain().party(), NONE);
        NamesAgain first = Check.town("name a 1;name b 1;soul p 1;soul q 1 called a;soul r 1 called b;");
        Check.eq("those who wait, if one, are as good", first.party(), 3);
        NamesAgain two = Check.town("name a 1;name b 1;soul p 1;soul q 1;soul r 1 called a;soul s 1 called b;");
        Check.eq("two who wait are more", two.party(), 12);
    }

    // Promises 32 and 33

    @Says("COST of a free one that is not sour")
    private static void p32Free() {
        NamesAgain x = Check.town("name a 9;name b 7;name c 8;soul p 0 called a;soul q 0;soul r 0;");
        Check.eq("PRICE", x.least(1), 7);
        Check.eq("b", x.cheapest(), 1);
        Check.eq("as if it were first", x.least(2), 7);
        x.die(0, 1);
        Check.eq("half", x.least(1), 4);
        Check.eq("a", x.cheapest(), 0);
        NamesAgain sour = Check.town("name a 1;name b 7;soul p 0 called a;soul q 0;");
        sour.flee(0);
        Check.eq("not the sour one", sour.least(1), 7);
        Check.eq("b", sour.cheapest(), 1);
        NamesAgain none = Check.town("name a 1;soul p 0 called a;soul q 0;");
        none.flee(0);
        Check.eq("nothing but a sour one", none.least(1), NONE);
        Check.eq("for 0", Check.town("name a 0;soul p 0;").least(0), 0);
    }

    @Says("or PRICE of one that is sold to it by somebody who has not changed")
    private static void p32Sold() {
        NamesAgain x = Check.town("name a 9;name b 7;name c 3;soul p 0 called a;soul q 0 called b;soul r 0 called c;soul s 0;");
        Check.eq("c", x.least(3), 3);
        Check.eq("c", x.cheapest(), 2);
        x.swap(1, 2);
        Check.eq("those have changed", x.least(3), 9);
        Check.eq("a", x.cheapest(), 0);
        x.mondays(1);
        Check.eq("no more", x.least(3), 3);
        NamesAgain y = Check.town("name a 9;soul p 0 called a;soul q 9;soul r 9;");
        y.die(0, 1);
        y.take(1, 0);
        Check.eq("all have changed", y.least(2), NONE);
        y.mondays(1);
        Check.eq("PRICE, though COST is half", y.least(2), 9);
    }

    @Says("The least coin by which a SOUL that waits, if it were first, has a NAME now")
    private static void p32IfItWereFirst() {
        NamesAgain x = Check.town("name a 9;name b 7;soul p 0 called a;soul q 0;soul r 0;soul s 999;");
        for (int s = 1; s < 4; s++) {
            Check.eq("by whoever waits, whatever its purse", x.least(s), 7);
            Check.eq("b", x.cheapest(), 1);
        }
        String ahead = all(x);
        x.least(3);
        Check.is("all stays", all(x).equals(ahead));
    }

    @Says("NONE: none, it does not wait, has changed (but for free ones), no such one.")
    private static void p32None() {
        NamesAgain x = Check.town("name a 2;name b 7;name c 5;soul p 0 called a;soul q 0 called b;soul r 9;");
        for (int far : FAR) {
            Check.eq("least(" + far + ")", x.least(far), NONE);
        }
        Check.eq("least(3)", x.least(3), NONE);
        Check.eq("does not wait", x.least(0), NONE);
        Check.eq("none was told", x.cheapest(), NONE);
        x.flee(0);
        Check.eq("has changed: a free one", x.least(0), 5);
        Check.eq("c", x.cheapest(), 2);
        Check.eq("has not", x.least(2), 5);
        x.take(2, 2);
        Check.eq("has changed: no free one", x.least(0), NONE);
        Check.eq("stays", x.cheapest(), 2);
        x.die(2, 0);
        Check.eq("a dead one", x.least(2), NONE);
        Check.eq("no NAMES", Check.town("soul p 1;").least(0), NONE);
    }

    @Says("Which NAME that is (of like ones the first), by the latest least() that was not NONE; NONE ahead of any.")
    private static void p33Cheapest() {
        NamesAgain x = Check.town("name a 9;name b 7;name c 7;name d 7;soul p 0 called b;soul q 0;soul r 9 called d;");
        Check.eq("ahead of any", x.cheapest(), NONE);
        x.least(0);
        Check.eq("of NONE", x.cheapest(), NONE);
        Check.eq("7", x.least(1), 7);
        Check.eq("the first", x.cheapest(), 1);
        x.swap(0, 2);
        Check.eq("by the latest", x.cheapest(), 1);
        Check.eq("7", x.least(1), 7);
        Check.eq("the free one", x.cheapest(), 2);
        x.least(0);
        x.least(9);
        Check.eq("NONE leaves it", x.cheapest(), 2);
    }

    // Promises 34 and 35

    @Says("Feasts that fall on a NAME in n (1 to 99) MONDAYS from now on (till all are over); NONE: no such ones.")
    private static void p34Feasts() {
        NamesAgain x = Check.town("name a 1;name b 1;feast a 4;soul p 1 called a;");
        int[] due = {0, 1, 1, 1, 1, 2, 2, 2, 2, 3};
        for (int n = 1; n < due.length; n++) {
            Check.eq("in " + n, x.feasts(0, n), due[n]);
        }
        Check.eq("99", x.feasts(0, 99), 25);
        Check.eq("none told", x.feasts(1, 99), 0);
        for (int n : new int[] {0, -1, 100, Integer.MIN_VALUE, Integer.MAX_VALUE}) {
            Check.eq("feasts(0, " + n + ")", x.feasts(0, n), NONE);
        }
        for (int far : FAR) {
            Check.eq("feasts(" + far + ", 1)", x.feasts(far, 1), NONE);
        }
        Check.eq("feasts(2, 1)", x.feasts(2, 1), NONE);
        x.mondays(1);
        Check.eq("from 1", x.feasts(0, 3), 0);
        Check.eq("to 4", x.feasts(0, 4), 1);
    }

    @Says("(till all are over)")
    private static void p34TillOver() {
        NamesAgain x = Check.town("name a 1;feast a 9;");
        for (int i = 0; i < 3; i++) {
            x.mondays(60);
        }
        Check.eq("180, 189, 198", x.feasts(0, 99), 3);
        x.mondays(18);
        Check.eq("198", x.feasts(0, 99), 1);
        Check.eq("198 alone", x.feasts(0, 1), 1);
        x.mondays(1);
        Check.eq("199", x.feasts(0, 99), 0);
        x.mondays(1);
        Check.eq("all are over", x.feasts(0, 1), 0);
        NamesAgain each = over("name a 1;feast a 1;");
        Check.eq("200 is none", each.feasts(0, 99), 0);
    }

    @Says("Who waits as the k-th (from 0); NONE: nobody.")
    private static void p35Queue() {
        NamesAgain x = Check.town("name a 1;soul p 1;soul q 1 called a;soul r 1;");
        int[] due = {0, 2, NONE, NONE};
        for (int k = 0; k < due.length; k++) {
            Check.eq("queue(" + k + ")", x.queue(k), due[k]);
        }
        for (int far : FAR) {
            Check.eq("queue(" + far + ")", x.queue(far), NONE);
        }
        x.flee(1);
        x.die(0, 0);
        Check.eq("then", x.queue(0), 2);
        Check.eq("then", x.queue(1), 1);
        Check.eq("then", x.queue(2), NONE);
        NamesAgain nine = Check.town(NINE_CALLED);
        Check.eq("nobody", nine.queue(0), NONE);
        for (int s = 8; s >= 0; s--) {
            nine.flee(s);
        }
        for (int k = 0; k < 9; k++) {
            Check.eq("all nine", nine.queue(k), 8 - k);
        }
        Check.eq("no tenth", nine.queue(9), NONE);
    }

    @Says("Who waits as the k-th (from 0); NONE: nobody.")
    private static void p35NineWait() {
        for (int gone = 0; gone < 9; gone++) {
            NamesAgain x = Check.town(NINE_CALLED.replaceAll(" called [a-i]", ""));
            Check.eq("nine wait", x.now(3), 9);
            x.die(gone, 0);
            for (int k = 0; k < 9; k++) {
                Check.eq(gone + " is gone, the " + k + "-th", x.queue(k), k == 8 ? NONE : k < gone ? k : k + 1);
            }
        }
        NamesAgain x = Check.town(NINE_CALLED.replaceAll(" called [a-i]", ""));
        for (int s = 0; s < 9; s++) {
            Check.eq("the first is called", x.take(s, 8 - s), 0);
            Check.eq("the next is first", x.queue(0), s == 8 ? NONE : s + 1);
            Check.eq("fewer wait", x.now(3), 8 - s);
        }
    }

    // Promises 36 and 37

    @Says("n (1 to 60) MONDAYS DRAWN by a seed: how many went by; NONE: not as told, no SOULS, no NAMES.")
    private static void p36NotAsTold() {
        NamesAgain x = Check.town(FOUR);
        String ahead = all(x);
        for (int n : new int[] {0, -1, 61, 1000, Integer.MIN_VALUE, Integer.MAX_VALUE}) {
            Check.eq("drawn(" + n + ", 1)", x.drawn(n, 1), NONE);
        }
        Check.is("all stays", all(x).equals(ahead));
        Check.eq("no SOULS", Check.town("name a 1;").drawn(1, 1), NONE);
        Check.eq("no NAMES", Check.town("soul p 1;").drawn(1, 1), NONE);
        Check.eq("neither", new NamesAgain().drawn(1, 1), NONE);
        Check.eq("no SOULS, and all are over", over("name a 1;").drawn(1, 1), NONE);
        Check.eq("1", x.drawn(1, 1), 1);
        for (int i = 0; i < 3; i++) {
            Check.eq("60", x.drawn(60, i), 60);
        }
        Check.eq("19 are left", x.drawn(60, 1), 19);
        Check.eq("none is left", x.drawn(1, 1), 0);
        Check.eq("not as told, though", x.drawn(61, 1), NONE);
    }

    /** The same draws, done by calls that the document describes by themselves. */
    private static void liveByCalls(NamesAgain x, int mondays, int seed) {
        long draw = seed & 0xffffffffL;
        int souls = x.count(1);
        for (int m = 0; m < mondays; m++) {
            for (int s = 0; s < souls; s++) {
                if (x.soul(s, 2) == 0) {
                    continue;
                }
                draw = (draw * 1103515245L + 12345L) & 0xffffffffL;
                int what = (int) ((draw >> 8) % 8);
                if (what == 0 || what == 1 || what == 3) {
                    draw = (draw * 1103515245L + 12345L) & 0xffffffffL;
                }
                long next = draw >> 8;
                if (what == 0) {
                    x.swap(s, (int) (next % souls));
                } else if (what == 1) {
                    x.take(s, (int) (next % x.count(0)));
                } else if (what == 2) {
                    x.flee(s);
                } else if (what == 3 && next % 5 == 0) {
                    x.die(s, 0);
                }
            }
            x.mondays(1);
        }
    }

    @Says("DRAWN by a seed x: for each draw of n x becomes x * 1103515245 + 12345 (an int, wrapping), the draw is (x >>> 8) % n")
    private static void p36Draws() {
        int[] seeds = {0, 1, -1, 7, -7, Integer.MAX_VALUE, Integer.MIN_VALUE, 1 << 30, 987654321, -987654321};
        for (int seed : seeds) {
            for (int mondays = 1; mondays <= 31; mondays += 10) {
                String text = "name a 1;name b 2;name c 0;name d 3;feast a 2;feast b 3;soul p 9 called a;soul q 9 called b;soul r 9;soul s 9;";
                NamesAgain x = Check.town(text);
                NamesAgain y = Check.town(text);
                Check.eq("drawn", x.drawn(mondays, seed), mondays);
                liveByCalls(y, mondays, seed);
                Check.is(mondays + " MONDAYS by " + seed, all(x).equals(all(y)));
            }
        }
    }

    @Says("SOUL by SOUL, who lives: a draw of 8")
    private static void p36OfNine() {
        for (int seed = 0; seed < 12; seed++) {
            NamesAgain x = Check.town(NINE_CALLED);
            NamesAgain y = Check.town(NINE_CALLED);
            x.drawn(20, seed);
            liveByCalls(y, 20, seed);
            Check.is("nine by " + seed, all(x).equals(all(y)));
        }
    }

    /** A seed whose first draw of 8 and next draw of another size are as told. */
    private static int seedFor(int first, int size, int second) {
        for (int seed = 0; seed < 100000; seed++) {
            int one = seed * 1103515245 + 12345;
            int two = one * 1103515245 + 12345;
            if ((one >>> 8) % 8 == first && (two >>> 8) % size == second) {
                return seed;
            }
        }
        return NONE;
    }

    @Says("0: a draw of all SOULS: it swaps with that one, if it can")
    private static void p36Swaps() {
        NamesAgain x = Check.town("name a 1;name b 1;name c 9;soul p 9 called a;soul q 9 called b;");
        x.drawn(1, seedFor(0, 2, 1));
        Check.eq("p was called b", x.called(0, 0), 1);
        NamesAgain y = Check.town("name a 1;soul p 9 called a;");
        y.drawn(1, seedFor(0, 1, 0));
        Check.eq("not with itself", y.called(0, 0), 0);
        NamesAgain z = Check.town("name a 1;soul p 9 called a;soul q 9;");
        z.drawn(1, seedFor(0, 2, 1));
        Check.eq("not with one who waits", z.soul(0, 0), 0);
    }

    @Says("1: a draw of all NAMES: it takes it, if it can")
    private static void p36Takes() {
        NamesAgain x = Check.town("name a 1;name b 1;name c 9;soul p 9;");
        x.drawn(1, seedFor(1, 3, 2));
        Check.eq("c", x.called(0, 0), 2);
        Check.eq("for its PRICE", x.soul(0, 1), 0);
        NamesAgain y = Check.town("name a 1;name b 1;name c 9;soul p 8;");
        y.drawn(1, seedFor(1, 3, 2));
        Check.eq("it can't", y.called(0, 0), NONE);
        Check.eq("its purse stays", y.soul(0, 1), 8);
    }

    @Says("2: it flees, if it can")
    private static void p36Flees() {
        NamesAgain x = Check.town("name a 1;soul p 9 called a;");
        x.drawn(1, seedFor(2, 1, 0));
        Check.eq("fled", x.soul(0, 6), 1);
        Check.eq("sour", x.name(0, 4), 1);
        NamesAgain y = Check.town("name a 1;soul p 9;");
        y.drawn(1, seedFor(2, 1, 0));
        Check.eq("it can't", y.soul(0, 6), 0);
    }

    @Says("3: a draw of 5: 0: it dies; then the MONDAY.")
    private static void p36Dies() {
        for (int draw = 0; draw < 5; draw++) {
            NamesAgain x = Check.town("name a 1;soul p 9 called a;");
            x.drawn(1, seedFor(3, 5, draw));
            Check.eq("by " + draw, x.soul(0, 2), draw == 0 ? 0 : 1);
            Check.eq("a hanging it is not", x.name(0, 5), 0);
            Check.eq("then the MONDAY", x.called(0, 0), draw == 0 ? NONE : 0);
        }
        for (int what = 4; what < 8; what++) {
            NamesAgain x = Check.town("name a 1;soul p 9 called a;");
            String ahead = all(x);
            x.drawn(1, seedFor(what, 1, 0));
            x.image(0);
            x.undo();
            x.mondays(1);
            String one = all(x);
            x.restore(0);
            Check.is("nothing but the MONDAY by " + what, all(x).equals(one) && !one.equals(ahead));
        }
    }

    @Says("each MONDAY: SOUL by SOUL, who lives")
    private static void p36NobodyLives() {
        NamesAgain x = Check.town("name a 1;soul p 1;");
        x.die(0, 0);
        Check.eq("MONDAYS go by", x.drawn(60, 5), 60);
        Check.eq("and can be undone", x.undo(), 1);
    }

    @Says("Of n (1 to 30) seeds x, x and 1, .. by how many a SOUL is called something behind 20 MONDAYS DRAWN from now on")
    private static void p37Odds() {
        for (int from : new int[] {0, -15, Integer.MAX_VALUE - 3, 123456}) {
            NamesAgain x = Check.town(FOUR);
            x.mondays(2);
            for (int s = 0; s < 5; s += 2) {
                int called = 0;
                for (int n = 1; n <= 30; n++) {
                    x.drawn(20, from + n - 1);
                    called += x.soul(s, 0) == NONE ? 0 : 1;
                    x.undo();
                    Check.eq("odds(" + s + ", " + n + ", " + from + ")", x.odds(s, n, from), called);
                }
            }
            Check.eq("all stays", x.now(0), 2);
            Check.eq("and what can be undone", x.undo(), 0);
        }
    }

    @Says("behind 20 MONDAYS DRAWN from now on")
    private static void p37TillOver() {
        NamesAgain x = over(FOUR);
        Check.eq("none is left: called yet", x.odds(0, 30, 1), 30);
        Check.eq("none is left: not called", x.odds(4, 30, 1), 0);
        x.undo();
        x.mondays(45);
        int called = 0;
        for (int seed = 0; seed < 30; seed++) {
            x.drawn(5, seed);
            called += x.soul(0, 0) == NONE ? 0 : 1;
            x.undo();
        }
        Check.eq("five are left", x.odds(0, 30, 0), called);
    }

    @Says("NONE: no such ones, no NAMES.")
    private static void p37NoSuch() {
        NamesAgain x = Check.town(FOUR);
        for (int far : FAR) {
            Check.eq("odds(" + far + ", 1, 1)", x.odds(far, 1, 1), NONE);
        }
        Check.eq("odds(5, 1, 1)", x.odds(5, 1, 1), NONE);
        for (int n : new int[] {0, -1, 31, 1000, Integer.MIN_VALUE, Integer.MAX_VALUE}) {
            Check.eq("odds(0, " + n + ", 1)", x.odds(0, n, 1), NONE);
        }
        Check.eq("no NAMES", Check.town("soul p 1;").odds(0, 1, 1), NONE);
        Check.eq("no SOULS", Check.town("name a 1;").odds(0, 1, 1), NONE);
        x.die(0, 0);
        Check.eq("a dead one", x.odds(0, 30, 1), 0);
    }
}
