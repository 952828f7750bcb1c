/** The edges of promises 1 to 5 and 38 to 44: the tape, texts that are read off it, SENTENCES said, images. */
public final class EdgeTapeTest {
    private static final int NONE = NamesAgain.NONE;
    private static final int[] FAR = {Integer.MIN_VALUE, -1000, -2, 2, 1000, Integer.MAX_VALUE};
    private static final String TOWN = "name a 10;name b 4;name c 6;debt a 7;feast b 2;"
        + "soul p 30 called a;soul q 20 called b;soul r 5;soul s 40;wish p b;worth r c 3;";

    public static void main(String[] args) {
        Edges.run(EdgeTapeTest.class);
    }

    private static int feed(NamesAgain x) {
        return x.feed(0x20202020, 0x20202020, 0x20202020, 0x20202020, 0x20202020);
    }

    private static NamesAgain fed(int times) {
        NamesAgain x = new NamesAgain();
        for (int i = 1; i <= times; i++) {
            Check.eq("fed " + i, feed(x), 20 * i);
        }
        return x;
    }

    private static String all(NamesAgain x) {
        return ActTest.all(x);
    }

    // Promise 1

    @Says("An empty TOWN; an empty tape.")
    private static void p01NewObject() {
        NamesAgain x = new NamesAgain();
        for (int what = 0; what < 3; what++) {
            Check.eq("count(" + what + ")", x.count(what), 0);
        }
        for (int what = 0; what < 7; what++) {
            Check.eq("now(" + what + ")", x.now(what), 0);
        }
        Check.eq("fault", x.fault(), 0);
        Check.eq("said", x.said(NONE), NONE);
        Check.eq("rolled", x.rolled(0), NONE);
        Check.eq("cheapest", x.cheapest(), NONE);
        Check.eq("undo", x.undo(), NONE);
        Check.is("no image", !x.restore(0) && !x.restore(1));
        Check.eq("another object is empty, too", new NamesAgain().count(2), 0);
    }

    @Says("An empty TOWN; an empty tape.")
    private static void p01NothingInIt() {
        NamesAgain x = new NamesAgain();
        int[] none = {x.name(0, 0), x.worth(0, 0), x.take(0, 0), x.swap(0, 1), x.sell(0, 1), x.die(0, 0), x.flee(0), x.pay(0, 1),
            x.lot(0, 1), x.bearers(0), x.howLong(0, 0), x.partner(0), x.bidder(0), x.bid(0), x.ledger(), x.votes(1), x.party(),
            x.least(0), x.feasts(0, 1), x.queue(0), x.drawn(1, 1), x.odds(0, 1, 1)};
        for (int i = 0; i < none.length; i++) {
            Check.eq("call " + i, none[i], NONE);
        }
        Check.is("soul", Check.throwsNoSuch(x, 0, 0));
        Check.eq("called", x.called(0, 0), -2);
        Check.eq("holder", x.holder(0, 0), -2);
        Check.eq("no wish is open", x.wishes(), 0);
        Check.eq("no swap is needed", x.swaps(), 0);
        Check.eq("nothing comes free", x.must(199), 0);
        Check.eq("nobody has VOTES", x.votes(0), 0);
        Check.eq("MONDAYS go by", x.mondays(60), 60);
    }

    // Promise 2

    @Says("Twenty bytes come behind the tape, of each number the highest first: how many it has")
    private static void p02HighestFirst() {
        NamesAgain x = new NamesAgain();
        Check.eq("twenty", x.feed(0x6e616d65, 0x20782033, 0x373b736f, 0x756c2079, 0x20353b0a), 20);
        Check.eq("name x 37;soul y 5;", x.town(), 2);
        Check.eq("37", x.name(0, 0), 37);
        Check.eq("5", x.soul(0, 1), 5);
    }

    @Says("Twenty bytes come behind the tape, of each number the highest first: how many it has")
    private static void p02Behind() {
        NamesAgain x = new NamesAgain();
        x.feed(0x6e616d65, 0x20782033, 0x37202020, 0, 0);
        x.end(10);
        Check.eq("behind ten", x.feed(0x3b736f75, 0x6c207920, 0x353b2020, 0x20202020, 0x20202020), 30);
        Check.eq("name x 37;soul y 5;", x.town(), 2);
    }

    @Says("Twenty bytes come behind the tape, of each number the highest first: how many it has")
    private static void p02HighBits() {
        NamesAgain x = Check.town("soul s 1;");
        x.mondays(20);
        Check.eq("all bits of all", x.feed(-1, -1, -1, -1, -1), 20);
        Check.eq("twenty times 255: none", x.ledger(), 1);
        x.feed(0x80000000, 0, 0, 0, 0);
        Check.eq("128 is no NAME", x.ledger(), NONE);
    }

    @Says("NONE, and none come, if it would have more than 940.")
    private static void p02Full() {
        NamesAgain x = fed(47);
        Check.eq("940", x.count(2), 940);
        Check.eq("one more", feed(x), NONE);
        Check.eq("none came", x.count(2), 940);
        x.end(921);
        Check.eq("941", feed(x), NONE);
        Check.eq("none came", x.count(2), 921);
        x.end(920);
        Check.eq("940 again", feed(x), 940);
    }

    @Says("NONE, and none come, if it would have more than 940.")
    private static void p02RefusedLeavesBytes() {
        NamesAgain x = new NamesAgain();
        Check.put(x, "name n 5;" + " ".repeat(912));
        x.feed(0x21212121, 0x21212121, 0x21212121, 0x21212121, 0x21212121);
        Check.eq("refused", x.count(2), 921);
        x.end(900);
        Check.eq("its bytes stayed", x.town(), 1);
    }

    // Promise 3

    @Says("The tape has its first n bytes alone: true")
    private static void p03First() {
        NamesAgain x = new NamesAgain();
        Check.put(x, "name n 5;name m 6;");
        Check.is("all of them", x.end(18));
        Check.eq("18", x.count(2), 18);
        Check.is("nine", x.end(9));
        Check.eq("9", x.count(2), 9);
        Check.is("again", x.end(9));
        Check.eq("the first LINE", x.town(), 1);
        Check.is("none of none", x.end(0));
    }

    @Says("false, if it has not so many, or n is below 0.")
    private static void p03NotSoMany() {
        NamesAgain x = fed(1);
        for (int n : new int[] {21, 22, 940, 941, Integer.MAX_VALUE, -1, -20, Integer.MIN_VALUE}) {
            Check.is("end(" + n + ")", !x.end(n));
            Check.eq("all stay", x.count(2), 20);
        }
        Check.is("20", x.end(20));
        Check.is("0", x.end(0));
        Check.is("1 of none", !x.end(1));
        NamesAgain full = fed(47);
        Check.is("940 of 940", full.end(940));
        Check.is("941 of 940", !full.end(941));
    }

    // Promise 4

    @Says("The tape (empty then, here and below) is the TOWN now: how many LINES")
    private static void p04Lines() {
        NamesAgain x = new NamesAgain();
        Check.put(x, TOWN);
        Check.eq("LINES", x.town(), 11);
        Check.eq("the tape is empty", x.count(2), 0);
        Check.eq("an empty tape is an empty TOWN", x.town(), 0);
        Check.eq("no NAMES", x.count(0), 0);
        Check.eq("no SOULS", x.count(1), 0);
    }

    @Says("The tape (empty then, here and below) is the TOWN now: how many LINES")
    private static void p04EmptyThen() {
        NamesAgain x = Check.town(TOWN);
        x.mondays(5);
        Check.put(x, "x");
        x.town();
        Check.eq("behind a TOWN with a FAULT", x.count(2), 0);
        for (int lives = 0; lives < 2; lives++) {
            Check.roll(x, "x", lives);
            Check.eq("behind a ROLL with a FAULT", x.count(2), 0);
            Check.roll(x, "p dies;p dies;", lives);
            Check.eq("behind a ROLL that is WRONG", x.count(2), 0);
            Check.roll(x, "monday 1;", lives);
            Check.eq("behind a ROLL that is not", x.count(2), 0);
        }
        Check.sentence(x, "x");
        Check.eq("behind a SENTENCE with a FAULT", x.count(2), 0);
        Check.sentence(x, "alive");
        Check.eq("behind a SENTENCE without", x.count(2), 0);
        Check.put(x, "\u00ff");
        x.ledger();
        Check.eq("behind a LEDGER", x.count(2), 0);
        Check.put(x, "x");
        x.ledger();
        Check.eq("behind a LEDGER that is not as told", x.count(2), 0);
    }

    @Says("-1 less the place of a FAULT: it stays.")
    private static void p04Stays() {
        NamesAgain x = Check.town(TOWN);
        Check.sentence(x, "waits");
        x.flee(0);
        x.mondays(3);
        String ahead = all(x);
        String[] texts = {"name", "name z 1;name z 1;", "name z 1;soul y 1;old y 200;"};
        int[] places = {4, 14, 24};
        for (int i = 0; i < texts.length; i++) {
            Check.put(x, texts[i]);
            Check.eq("town of " + texts[i], x.town(), -1 - places[i]);
            Check.is("all is as it was", all(x).equals(ahead));
            Check.eq("the SENTENCE, too", x.said(NONE), 3);
        }
        Check.eq("its WORDS, too", Check.roll(x, "q takes c;", 0), 0);
        Check.eq("what can be undone, too", x.undo(), 1);
        Check.put(x, "!");
        Check.eq("a FAULT at 0", x.town(), -1);
    }

    @Says("A new TOWN: MONDAY 0, no SENTENCE.")
    private static void p04NewTown() {
        NamesAgain x = Check.town(TOWN);
        Check.sentence(x, "waits");
        x.flee(0);
        x.die(1, 1);
        x.mondays(60);
        Check.put(x, TOWN);
        Check.eq("the same text", x.town(), 11);
        Check.eq("MONDAY 0", x.now(0), 0);
        Check.eq("no SENTENCE", x.said(NONE), NONE);
        Check.eq("no past", x.called(0, 0), -2);
        Check.is("as in a new object", all(x).equals(all(Check.town(TOWN))));
        Check.eq("nothing to undo", x.undo(), NONE);
    }

    @Says("A new TOWN: MONDAY 0, no SENTENCE.")
    private static void p04ToldLastStays() {
        NamesAgain x = Check.town(TOWN);
        Check.eq("wishes", x.wishes(), 1);
        Check.eq("least", x.least(3), 4);
        Check.roll(x, "monday 3;r flees;", 0);
        x.image(1);
        Check.put(x, TOWN);
        x.town();
        Check.eq("by the latest wishes()", x.partner(0), 1);
        Check.eq("by the latest least()", x.cheapest(), 1);
        Check.eq("of the latest roll()", x.rolled(0), 42);
        Check.eq("of the latest roll()", x.rolled(2), 3);
        Check.is("what is kept", x.restore(1));
    }

    @Says("A new TOWN: MONDAY 0, no SENTENCE.")
    private static void p04NothingIsLeft() {
        StringBuilder full = new StringBuilder();
        for (char c = 'a'; c < 'j'; c++) {
            full.append("name n" + c + " 99;soul s" + c + " 99 called n" + c + ";debt n" + c + " 99;feast n" + c + " 1;old s" + c + " 0;");
            full.append("wish s" + c + " n" + c + ";worth s" + c + " na 9;");
        }
        String few = "name a 3;name b 4;soul p 5;soul q 6 called b;";
        NamesAgain x = Check.town(full.toString());
        x.mondays(3);
        x.die(0, 1);
        x.flee(1);
        x.swap(2, 3);
        Check.put(x, few);
        x.town();
        NamesAgain y = Check.town(few);
        for (int m = 0; m < 3; m++) {
            Check.is("as in a new object", all(x).equals(all(y)));
            for (int i = 0; i < 4; i++) {
                Check.eq("WORTH", x.worth(i / 2, i % 2), 0);
                Check.eq("howLong", x.howLong(i / 2, i % 2), y.howLong(i / 2, i % 2));
            }
            Check.eq("must", x.must(199), y.must(199));
            Check.eq("wishes", x.wishes(), 0);
            Check.eq("bearers", x.bearers(0), 0);
            Check.eq("feasts", x.feasts(0, 99), 0);
            Check.eq("party", x.party(), y.party());
            x.mondays(1);
            y.mondays(1);
        }
        Check.put(x, "soul p 5;");
        x.town();
        Check.eq("no NAME is left", x.name(0, 0), NONE);
        Check.eq("one purse", x.now(4), 5);
        Check.eq("no debt", x.now(5), 0);
        Check.eq("one lives", x.now(1), 1);
    }

    // Promise 5

    @Says("0 without one and ahead of any.")
    private static void p05NoFault() {
        NamesAgain x = new NamesAgain();
        Check.eq("ahead of any", x.fault(), 0);
        Check.put(x, "x");
        x.town();
        Check.eq("of a TOWN", x.fault(), 1);
        Check.put(x, TOWN);
        x.town();
        Check.eq("of the next", x.fault(), 0);
        Check.roll(x, "x dies;", 1);
        Check.eq("of a ROLL", x.fault(), 3);
        Check.roll(x, "p dies;p dies;", 1);
        Check.eq("WRONG is no FAULT", x.fault(), 0);
        Check.sentence(x, "not ".repeat(8) + "alive");
        Check.eq("of a SENTENCE", x.fault(), 4);
        Check.sentence(x, "alive");
        Check.eq("of the next", x.fault(), 0);
        Check.roll(x, "monday 0;", 0);
        Check.eq("of a ROLL", x.fault(), 2);
    }

    @Says("The kind of the FAULT of the latest town(), roll() or sentence() (a roll() of -1000 leaves it)")
    private static void p05Latest() {
        NamesAgain x = Check.town(TOWN);
        Check.sentence(x, "called x");
        Check.eq("3", x.fault(), 3);
        for (int lives : FAR) {
            Check.eq("-1000", x.roll(lives), -1000);
            Check.eq("it stays", x.fault(), 3);
        }
        Check.put(x, "\u00ff");
        x.ledger();
        x.feed(1, 1, 1, 1, 1);
        x.end(0);
        x.die(0, 0);
        x.undo();
        x.image(0);
        x.restore(0);
        Check.eq("no other call is asked", x.fault(), 3);
        Check.eq("asked twice", x.fault(), 3);
    }

    // Promise 38

    @Says("-1000: another lives (the tape stays).")
    private static void p38AnotherLives() {
        NamesAgain x = Check.town(TOWN);
        Check.put(x, "p dies;");
        for (int lives : new int[] {-1, 2, 3, Integer.MIN_VALUE, Integer.MAX_VALUE}) {
            Check.eq("roll(" + lives + ")", x.roll(lives), -1000);
            Check.eq("the tape stays", x.count(2), 7);
            Check.eq("rolled", x.rolled(0), NONE);
        }
        Check.eq("it lives", x.soul(0, 2), 1);
        Check.eq("lived", x.roll(1), NONE);
        Check.eq("dead", x.soul(0, 2), 0);
    }

    @Says("it is judged, all staying as it is (lives 0)")
    private static void p38Judged() {
        NamesAgain x = Check.town(TOWN);
        x.mondays(3);
        String ahead = all(x);
        String[] texts = {"", "p dies;", "p hangs;q flees;s dies;", "monday 60;p swaps q;", "p pays 7;p sells s;", "p dies;p dies;"};
        for (String text : texts) {
            Check.eq("judged " + text, Check.roll(x, text, 0), text.equals("p dies;p dies;") ? 1 : NONE);
            Check.is("all stays behind " + text, all(x).equals(ahead));
        }
        Check.eq("what can be undone, too", x.undo(), 0);
        Check.eq("the MONDAYS were", x.now(0), 0);
    }

    @Says("or lived as far as it is not WRONG (1): the LINE that is WRONG")
    private static void p38Lived() {
        NamesAgain x = Check.town(TOWN);
        Check.eq("the first", Check.roll(x, "p dies;p flees;q dies;", 1), 1);
        Check.eq("p is dead", x.soul(0, 2), 0);
        Check.eq("q is not", x.soul(1, 2), 1);
        Check.eq("at once", Check.roll(x, "p dies;q dies;", 1), 0);
        Check.eq("q lives yet", x.soul(1, 2), 1);
        Check.eq("the fortieth", Check.roll(x, "monday 1;".repeat(39) + "p dies;", 1), 39);
        Check.eq("39 MONDAYS", x.now(0), 39);
    }

    @Says("NONE: none; -2 less the place of a FAULT")
    private static void p38NoneOrFault() {
        for (int lives = 0; lives < 2; lives++) {
            NamesAgain x = Check.town(TOWN);
            Check.eq("an empty ROLL", x.roll(lives), NONE);
            Check.eq("a good one", Check.roll(x, "p dies;", lives), NONE);
            Check.eq("a FAULT at 0", Check.roll(x, "!", lives), -2);
            Check.eq("a FAULT at the end", Check.roll(x, "q dies", lives), -8);
            Check.eq("q lives", x.soul(1, 2), 1);
            Check.eq("a FAULT behind a good LINE", Check.roll(x, "q dies;!", lives), -9);
            Check.eq("q lives", x.soul(1, 2), 1);
            Check.eq("a FAULT behind a WRONG LINE", Check.roll(x, "r flees;!", lives), -10);
            Check.eq("a FAULT at 400", Check.roll(x, " ".repeat(401), lives), -402);
        }
    }

    // Promise 39

    private static void why(String text, int reason) {
        NamesAgain x = Check.town(TOWN);
        for (int lives = 0; lives < 2; lives++) {
            x.image(0);
            int line = Check.roll(x, text, lives);
            Check.eq("why of " + text, x.rolled(0), reason);
            Check.is("a LINE of " + text, reason == 0 ? line == NONE : line >= 0);
            x.restore(0);
        }
    }

    @Says("0 why it was WRONG (0: it was not; as for taking")
    private static void p39Taking() {
        why("", 0);
        why("r dies;s takes c;", 0);
        why("r dies;r takes c;", 1);
        why("p takes c;", 2);
        why("r takes a;", 3);
        why("p flees;r takes a;", 4);
        why("s takes c;", 5);
        why("r takes c;", 6);
    }

    @Says("10 more as for swapping")
    private static void p39Swapping() {
        why("p swaps q;", 0);
        why("p dies;p swaps q;", 11);
        why("p swaps r;", 12);
        why("p swaps q;q swaps p;", 13);
    }

    @Says("20 for selling")
    private static void p39Selling() {
        why("p sells s;", 0);
        why("r dies;p sells r;", 21);
        why("p sells q;", 22);
        why("p swaps q;q sells s;", 23);
        why("p sells r;", 24);
    }

    @Says("30 for dying and hanging")
    private static void p39Dying() {
        why("p dies;q hangs;", 0);
        why("p dies;p dies;", 31);
        why("p hangs;p hangs;", 31);
        why("p hangs;p dies;", 31);
    }

    @Says("40 for fleeing")
    private static void p39Fleeing() {
        why("p flees;", 0);
        why("p dies;p flees;", 41);
        why("r flees;", 42);
        why("p swaps q;q flees;", 43);
    }

    @Says("50 for paying")
    private static void p39Paying() {
        why("p pays 7;", 0);
        why("p dies;p pays 1;", 51);
        why("r pays 1;", 52);
        why("p pays 8;", 53);
        why("r dies;p hangs;s dies;q pays 1;", 53);
        NamesAgain x = Check.town("name a 1;debt a 9;soul p 4 called a;");
        Check.eq("below", Check.roll(x, "p pays 5;", 0), 0);
        Check.eq("54", x.rolled(0), 54);
    }

    @Says("61 fewer MONDAYS are left")
    private static void p39Mondays() {
        why("monday 60;monday 60;monday 60;monday 20;", 0);
        why("monday 60;monday 60;monday 60;monday 21;", 61);
        why("monday 60;monday 60;monday 60;monday 20;monday 1;", 61);
        NamesAgain x = Check.town(TOWN);
        Check.eq("WRONG", Check.roll(x, "monday 60;monday 60;monday 60;monday 21;", 1), 3);
        Check.eq("none of the 21 went", x.now(0), 180);
        Check.eq("nor then", x.rolled(2), 180);
    }

    @Says("two alike: 9 more than its sort)")
    private static void p39Alike() {
        why("p swaps p;", 19);
        why("p sells p;", 29);
        why("r swaps r;", 19);
        why("r sells r;", 29);
        why("p swaps q;p swaps p;", 19);
        why("p dies;p swaps p;", 19);
        why("p dies;p sells p;", 29);
    }

    @Says("1 LINES that are not, 2 the MONDAY then, 3 how many wait then.")
    private static void p39Then() {
        for (int lives = 0; lives < 2; lives++) {
            NamesAgain x = Check.town(TOWN);
            Check.roll(x, "p flees;monday 2;q dies;q dies;p dies;", lives);
            Check.eq("why", x.rolled(0), 31);
            Check.eq("LINES", x.rolled(1), 3);
            Check.eq("the MONDAY", x.rolled(2), 2);
            Check.eq("who wait", x.rolled(3), 3);
        }
        NamesAgain x = Check.town(TOWN);
        x.mondays(5);
        x.roll(0);
        Check.eq("no LINE", x.rolled(1), 0);
        Check.eq("MONDAY", x.rolled(2), 5);
        Check.eq("two wait", x.rolled(3), 2);
    }

    @Says("Of the latest roll() that had no FAULT (and was not -1000)")
    private static void p39Latest() {
        NamesAgain x = Check.town(TOWN);
        Check.roll(x, "monday 7;r flees;", 0);
        Check.roll(x, "monday 3;!", 1);
        x.roll(2);
        x.mondays(1);
        int[] due = {42, 1, 7, 2};
        for (int what = 0; what < 4; what++) {
            Check.eq("rolled(" + what + ")", x.rolled(what), due[what]);
        }
        x.roll(1);
        Check.eq("the next one", x.rolled(0), 0);
        Check.eq("its MONDAY", x.rolled(2), 1);
    }

    @Says("NONE: another what, or ahead of any.")
    private static void p39NoneRolled() {
        NamesAgain x = Check.town(TOWN);
        for (int what = -1; what < 5; what++) {
            Check.eq("ahead of any", x.rolled(what), NONE);
        }
        Check.roll(x, "!", 0);
        Check.eq("a FAULT is none", x.rolled(0), NONE);
        x.roll(0);
        for (int what : new int[] {-1, 4, 5, Integer.MIN_VALUE, Integer.MAX_VALUE}) {
            Check.eq("another what " + what, x.rolled(what), NONE);
        }
    }

    // Promise 40

    @Says("how many ONES (each not, bracket and other one)")
    private static void p40Ones() {
        String[] texts = {"alive", "not alive", "(alive)", "not (alive)", "alive and waits or fled", "((alive))", "not not purse < 5"};
        int[] ones = {1, 2, 2, 3, 3, 3, 3};
        for (int i = 0; i < texts.length; i++) {
            NamesAgain x = Check.town(TOWN);
            Check.eq(texts[i], Check.sentence(x, texts[i]), ones[i]);
        }
    }

    @Says("-1 less the place of a FAULT: it stays.")
    private static void p40Stays() {
        NamesAgain x = Check.town(TOWN);
        Check.eq("an empty one", x.sentence(), -1);
        Check.eq("is none", x.said(NONE), NONE);
        Check.sentence(x, "waits");
        Check.eq("an empty one", x.sentence(), -1);
        Check.eq("the old one stays", x.said(NONE), 2);
        Check.eq("a FAULT behind good ONES", Check.sentence(x, "alive or not alive or 5"), -23);
        Check.eq("the old one stays", x.said(0), 2);
        Check.eq("a FAULT at 200", Check.sentence(x, "alive" + " ".repeat(196)), -201);
        Check.eq("the old one stays", x.said(1), 3);
        Check.eq("a new one", Check.sentence(x, "not waits"), 2);
        Check.eq("is the SENTENCE now", x.said(0), 0);
    }

    // Promise 41

    @Says("SOULS of whom it may be said: how many (k NONE), or the k-th.")
    private static void p41Said() {
        NamesAgain x = Check.town(TOWN);
        Check.sentence(x, "number > 0");
        Check.eq("how many", x.said(NONE), 3);
        for (int k = 0; k < 3; k++) {
            Check.eq("the k-th", x.said(k), k + 1);
        }
    }

    @Says("NONE: there is no SENTENCE, none such.")
    private static void p41None() {
        NamesAgain x = Check.town(TOWN);
        for (int k = -2; k < 3; k++) {
            Check.eq("no SENTENCE", x.said(k), NONE);
        }
        Check.sentence(x, "number > 0");
        for (int k : new int[] {3, 4, 9, 31, 32, Integer.MAX_VALUE, -2, -3, Integer.MIN_VALUE}) {
            Check.eq("none such " + k, x.said(k), NONE);
        }
        Check.sentence(x, "number > 3");
        Check.eq("of none", x.said(NONE), 0);
        Check.eq("no first", x.said(0), NONE);
    }

    // Promises 42 and 43

    @Says("TOWN, all that is so and the SENTENCE are kept in place k (0, 1): true; false: no such one.")
    private static void p42Places() {
        NamesAgain x = Check.town(TOWN);
        for (int k : new int[] {-1, 2, 3, Integer.MIN_VALUE, Integer.MAX_VALUE}) {
            Check.is("image(" + k + ")", !x.image(k));
            Check.is("restore(" + k + ")", !x.restore(k));
        }
        Check.is("nothing was kept", !x.restore(0) && !x.restore(1));
        Check.is("0", x.image(0));
        Check.is("1 is another place", !x.restore(1));
        Check.is("1", x.image(1));
        Check.is("0 again", x.image(0));
    }

    @Says("TOWN, all that is so and the SENTENCE are kept in place k (0, 1): true")
    private static void p42Kept() {
        NamesAgain x = Check.town(TOWN);
        Check.sentence(x, "waits");
        x.flee(0);
        x.die(1, 1);
        x.mondays(7);
        x.take(2, 1);
        x.image(1);
        String kept = all(x);
        Check.eq("it leaves what can be undone", x.undo(), 3);
        Check.put(x, "name other 5;soul o 5;");
        x.town();
        x.image(0);
        Check.is("restored", x.restore(1));
        Check.is("all is so", all(x).equals(kept));
        Check.eq("its SENTENCE", x.said(NONE), 2);
        Check.eq("its worths", x.worth(2, 2), 3);
        Check.eq("its WORDS", Check.roll(x, "p dies;", 0), NONE);
        Check.is("the other one", x.restore(0));
        Check.eq("its NAMES", x.count(0), 1);
        Check.eq("its MONDAY", x.now(0), 0);
        Check.eq("no SENTENCE", x.said(NONE), NONE);
        Check.is("again", x.restore(1));
        Check.is("all is so again", all(x).equals(kept));
    }

    @Says("TOWN, all that is so and the SENTENCE are kept in place k (0, 1): true")
    private static void p42PastKept() {
        NamesAgain x = Check.town(TOWN);
        x.mondays(5);
        x.image(0);
        String kept = all(x);
        Check.put(x, TOWN);
        x.town();
        x.swap(0, 1);
        x.mondays(2);
        x.flee(0);
        x.mondays(9);
        x.image(1);
        String other = all(x);
        Check.is("0", x.restore(0));
        Check.is("who was called what when", all(x).equals(kept));
        x.sell(0, 3);
        x.mondays(60);
        Check.is("1", x.restore(1));
        Check.is("who was called what when", all(x).equals(other));
    }

    @Says("They are as kept in place k")
    private static void p43Unchanged() {
        NamesAgain x = Check.town(TOWN);
        x.image(0);
        String kept = all(x);
        for (int seed = 0; seed < 3; seed++) {
            x.drawn(20, seed);
            x.die(0, 1);
            Check.sentence(x, "alive");
            Check.is("restored", x.restore(0));
            Check.is("as kept", all(x).equals(kept));
            Check.eq("no SENTENCE", x.said(NONE), NONE);
        }
    }

    @Says("(the tape, and what other calls told last, stays; nothing can be undone)")
    private static void p43Stays() {
        NamesAgain x = Check.town(TOWN);
        x.image(0);
        x.flee(0);
        x.undo();
        x.die(2, 0);
        x.swap(0, 1);
        x.undo();
        Check.eq("wishes", x.wishes(), 1);
        Check.eq("least", x.least(3), 4);
        Check.roll(x, "monday 3;r flees;", 0);
        Check.sentence(x, "called x");
        Check.put(x, "four");
        Check.is("restored", x.restore(0));
        Check.eq("the tape", x.count(2), 4);
        Check.eq("fault", x.fault(), 3);
        Check.eq("partner", x.partner(0), 1);
        Check.eq("cheapest", x.cheapest(), 1);
        Check.eq("rolled", x.rolled(0), 41);
        Check.eq("its MONDAY", x.rolled(2), 3);
        Check.eq("nothing can be undone", x.undo(), NONE);
        x.die(0, 0);
        Check.eq("but what is done then", x.undo(), 0);
        Check.eq("the tape's text", x.town(), -1);
    }

    @Says("true; false: no such one, or nothing is kept there.")
    private static void p43NothingKept() {
        NamesAgain x = Check.town(TOWN);
        x.die(0, 0);
        Check.is("0", !x.restore(0));
        Check.is("1", !x.restore(1));
        Check.eq("all stays", x.now(1), 14);
        Check.eq("what can be undone, too", x.undo(), 0);
        x.image(1);
        x.die(0, 0);
        Check.is("2", !x.restore(2));
        Check.is("-1", !x.restore(-1));
        Check.is("0", !x.restore(0));
        Check.eq("all stays", x.now(1), 14);
        Check.is("1", x.restore(1));
        Check.eq("as kept", x.now(1), 15);
    }

    // Promise 44

    @Says("0 NAMES, 1 SOULS, 2 bytes of the tape. NONE for another what.")
    private static void p44Count() {
        NamesAgain x = Check.town(TOWN);
        Check.put(x, "12345");
        Check.eq("NAMES", x.count(0), 3);
        Check.eq("SOULS", x.count(1), 4);
        Check.eq("bytes", x.count(2), 5);
        x.die(0, 0);
        Check.eq("dead ones are SOULS", x.count(1), 4);
        for (int what : new int[] {-1, 3, Integer.MIN_VALUE, Integer.MAX_VALUE}) {
            Check.eq("count(" + what + ")", x.count(what), NONE);
        }
    }

    // What holds for all

    @Says("A call that throws changes nothing.")
    private static void throwsNothingChanged() {
        NamesAgain x = Check.town(TOWN);
        x.flee(0);
        x.mondays(2);
        Check.sentence(x, "called x");
        Check.put(x, "abc");
        String ahead = all(x);
        for (int[] wrong : new int[][] {{-1, 0}, {4, 0}, {0, -1}, {0, 8}, {9, 9}, {Integer.MIN_VALUE, 0}, {0, Integer.MAX_VALUE}}) {
            Check.is("throws", Check.throwsNoSuch(x, wrong[0], wrong[1]));
        }
        Check.is("all is as it was", all(x).equals(ahead));
        Check.eq("the tape", x.count(2), 3);
        Check.eq("fault", x.fault(), 3);
        Check.eq("undo", x.undo(), 1);
    }

    @Says("An object is used for at most 512 calls after it has been made")
    private static void manyCalls() {
        NamesAgain x = new NamesAgain();
        for (int i = 0; i < 512; i++) {
            Check.eq("call " + i, i % 48 == 47 ? x.town() : x.feed(0x20202020, 0x20202020, 0x20202020, 0x20202020, 0x20202020),
                i % 48 == 47 ? -901 : i % 48 * 20 + 20);
        }
        NamesAgain y = Check.town(TOWN);
        for (int i = 0; i < 250; i++) {
            Check.eq("swap " + i, y.swap(i % 2, 1 - i % 2), 0);
            Check.is("undone " + i, y.undo() >= 0);
        }
    }
}
