/** The edges of the acts (the document's part 2) and of promises 6 to 18. */
public final class EdgeActTest {
    private static final int NONE = NamesAgain.NONE;
    private static final int[] FAR = {Integer.MIN_VALUE, -2, -1, 9, 10, 31, 32, 1000, Integer.MAX_VALUE};
    // p is called a, q is called b, r is called c; s, t and u wait; d and e are free.
    private static final String TOWN = "name a 11;name b 4;name c 0;name d 8;name e 99;debt a 7;debt b 99;feast b 2;"
        + "soul p 30 called a;soul q 20 called b;soul r 5 called c;soul s 8;soul t 40;soul u 999;wish p b;worth s d 3;";

    public static void main(String[] args) {
        Edges.run(EdgeActTest.class);
    }

    private static NamesAgain town() {
        return Check.town(TOWN);
    }

    private static String all(NamesAgain x) {
        return ActTest.all(x);
    }

    // To TAKE

    @Says("To TAKE a NAME: why not, the least: 1 it is dead")
    private static void takeDead() {
        NamesAgain x = town();
        x.die(3, 0);
        x.flee(2);
        Check.eq("a free one", x.take(3, 3), 1);
        Check.eq("and the NAME is not free", x.take(3, 0), 1);
        Check.eq("and it is sour", x.take(3, 2), 1);
        Check.eq("and it costs more", x.take(3, 4), 1);
    }

    @Says("2 it is called something")
    private static void takeCalled() {
        NamesAgain x = town();
        Check.eq("a free one", x.take(0, 3), 2);
        Check.eq("and the NAME is not free", x.take(0, 1), 2);
        Check.eq("its own", x.take(0, 0), 2);
        Check.eq("and it costs more", x.take(2, 4), 2);
        x.flee(2);
        Check.eq("and it is sour", x.take(0, 2), 2);
    }

    @Says("3 the NAME is not free")
    private static void takeNotFree() {
        NamesAgain x = town();
        Check.eq("the first", x.take(3, 1), 3);
        Check.eq("and its purse is below", x.take(3, 0), 3);
        Check.eq("and somebody waits ahead", x.take(4, 2), 3);
    }

    @Says("4 it is sour")
    private static void takeSour() {
        NamesAgain x = town();
        x.flee(0);
        Check.eq("and its purse is below", x.take(3, 0), 4);
        Check.eq("and somebody waits ahead", x.take(4, 0), 4);
        x.mondays(60);
        Check.eq("later, too", x.take(3, 0), 4);
        x.lot(0, 1);
        x.die(x.name(0, 3), 0);
        Check.eq("no more", x.name(0, 4), 0);
    }

    @Says("5 somebody waits ahead")
    private static void takeAhead() {
        NamesAgain x = town();
        Check.eq("the second", x.take(4, 3), 5);
        Check.eq("the third", x.take(5, 3), 5);
        Check.eq("and its purse is below", x.take(4, 4), 5);
        x.die(3, 0);
        Check.eq("the third is second", x.take(5, 3), 5);
        Check.eq("the second is first", x.take(4, 3), 0);
        Check.eq("then the third", x.take(5, 4), 0);
    }

    @Says("6 its purse is below the COST")
    private static void takeCost() {
        NamesAgain x = town();
        Check.eq("8 of 8", x.take(3, 3), 0);
        Check.eq("is 0", x.soul(3, 1), 0);
        NamesAgain y = Check.town("name a 9;name b 0;soul p 8;soul q 0;");
        Check.eq("8 of 9", y.take(0, 0), 6);
        Check.eq("its purse stays", y.soul(0, 1), 8);
        Check.eq("it waits", y.soul(0, 4), 0);
        Check.eq("has not changed", y.soul(0, 5), 0);
        y.die(0, 0);
        Check.eq("0 of 9", y.take(1, 0), 6);
        Check.eq("0 of 0", y.take(1, 1), 0);
    }

    @Says("PRICE, half of it (cut) while it is a hanged one's")
    private static void takeHalf() {
        int[] prices = {0, 1, 2, 3, 98, 99};
        int[] halves = {0, 0, 1, 1, 49, 49};
        for (int i = 0; i < prices.length; i++) {
            NamesAgain x = Check.town("name a " + prices[i] + ";soul p 1 called a;soul q " + halves[i] + ";");
            x.die(0, 1);
            Check.eq("PRICE", x.name(0, 0), prices[i]);
            Check.eq("COST", x.name(0, 1), halves[i]);
            Check.eq("taken", x.take(1, 0), 0);
            Check.eq("purse", x.soul(1, 1), 0);
        }
        NamesAgain x = Check.town("name a 9;soul p 1 called a;soul q 3;");
        x.die(0, 1);
        Check.eq("3 of 4", x.take(1, 0), 6);
    }

    @Says("(12 MONDAYS, that of the hanging counted)")
    private static void takeTwelve() {
        for (int ahead = 0; ahead < 3; ahead++) {
            NamesAgain x = Check.town("name a 9;soul p 1 called a;soul q 4;");
            if (ahead > 0) {
                x.mondays(ahead);
            }
            x.die(0, 1);
            x.mondays(11);
            Check.eq("the twelfth", x.name(0, 5), 1);
            Check.eq("half", x.name(0, 1), 4);
            Check.eq("taken for half", x.take(1, 0), 0);
            x.undo();
            x.mondays(1);
            Check.eq("no more", x.name(0, 5), 0);
            Check.eq("whole", x.name(0, 1), 9);
            Check.eq("not for half", x.take(1, 0), 6);
        }
    }

    @Says("(12 MONDAYS, that of the hanging counted)")
    private static void takeTwelveTaken() {
        NamesAgain x = Check.town("name a 9;soul p 1 called a;soul q 90;soul r 4;");
        x.die(0, 1);
        x.take(1, 0);
        x.mondays(5);
        Check.eq("taken, it is one yet", x.name(0, 5), 7);
        x.sell(1, 2);
        Check.eq("sold, it is not bought for 4", x.name(0, 3), 1);
        x.flee(1);
        Check.eq("fled from, it is one yet", x.name(0, 5), 7);
        x.undo();
        x.die(1, 0);
        Check.eq("for those who take it then", x.name(0, 1), 4);
        x.undo();
        x.die(1, 1);
        Check.eq("hanged anew", x.name(0, 5), 12);
    }

    @Says("(12 MONDAYS, that of the hanging counted)")
    private static void takeTwelveSold() {
        NamesAgain x = Check.town("name a 9;name b 9;soul p 1 called a;soul q 90;soul r 90;soul s 9 called b;");
        x.die(0, 1);
        x.take(1, 0);
        x.mondays(1);
        Check.eq("sold", x.sell(1, 2), 0);
        Check.eq("it is one yet", x.name(0, 5), 11);
        x.mondays(1);
        Check.eq("swapped", x.swap(2, 3), 0);
        Check.eq("it is one yet", x.name(0, 5), 10);
        Check.eq("the NAME, not who had it", x.name(1, 5), 0);
        x.mondays(1);
        x.flee(3);
        x.lot(0, 1);
        Check.eq("drawn, it is one yet", x.name(0, 5), 9);
    }

    @Says("the purse is COST less.")
    private static void takeDone() {
        NamesAgain x = town();
        x.die(3, 0);
        Check.eq("taken", x.take(4, 3), 0);
        Check.eq("purse", x.soul(4, 1), 32);
        Check.eq("NAME", x.soul(4, 0), 3);
        Check.eq("who", x.name(3, 3), 4);
        Check.eq("waits no more", x.soul(4, 4), NONE);
        Check.eq("the next is first", x.queue(0), 5);
        Check.eq("one waits", x.now(3), 1);
        Check.eq("e is free", x.now(2), 16);
    }

    // To SWAP

    @Says("To SWAP with another one: 1 one is dead")
    private static void swapDead() {
        NamesAgain x = town();
        x.die(0, 0);
        x.swap(1, 2);
        Check.eq("the first", x.swap(0, 1), 1);
        Check.eq("the second", x.swap(1, 0), 1);
        Check.eq("and one is called nothing", x.swap(3, 0), 1);
        x.die(1, 0);
        Check.eq("both", x.swap(0, 1), 1);
    }

    @Says("2 one is called nothing")
    private static void swapNothing() {
        NamesAgain x = town();
        Check.eq("the first", x.swap(3, 0), 2);
        Check.eq("the second", x.swap(0, 3), 2);
        Check.eq("both", x.swap(4, 3), 2);
        x.swap(0, 1);
        Check.eq("and one has changed", x.swap(0, 3), 2);
        Check.eq("and one has changed", x.swap(3, 0), 2);
    }

    @Says("3 one has changed on this MONDAY")
    private static void swapChanged() {
        NamesAgain x = town();
        x.swap(0, 1);
        Check.eq("the first", x.swap(0, 2), 3);
        Check.eq("the second", x.swap(2, 0), 3);
        Check.eq("both", x.swap(0, 1), 3);
        x.mondays(1);
        Check.eq("on the next one", x.swap(0, 2), 0);
    }

    @Says("each has the other's NAME.")
    private static void swapDone() {
        NamesAgain x = town();
        Check.eq("swapped", x.swap(2, 0), 0);
        Check.eq("p", x.soul(0, 0), 2);
        Check.eq("r", x.soul(2, 0), 0);
        Check.eq("a", x.name(0, 3), 2);
        Check.eq("c", x.name(2, 3), 0);
        Check.eq("purses stay", x.soul(0, 1), 30);
        Check.eq("the debt goes with the NAME", x.name(0, 2), 7);
        Check.eq("both have changed", x.soul(0, 5) + x.soul(2, 5), 2);
        Check.eq("nobody waits more", x.now(3), 3);
    }

    // To SELL

    @Says("To SELL to another one: 1 one is dead")
    private static void sellDead() {
        NamesAgain x = town();
        x.die(0, 0);
        x.die(4, 0);
        Check.eq("the first", x.sell(0, 3), 1);
        Check.eq("the second", x.sell(1, 4), 1);
        Check.eq("and it is called nothing", x.sell(3, 4), 1);
        Check.eq("and the other something", x.sell(0, 1), 1);
        Check.eq("both", x.sell(0, 4), 1);
    }

    @Says("2 it is called nothing, or the other one something")
    private static void sellNothing() {
        NamesAgain x = town();
        Check.eq("nothing", x.sell(3, 4), 2);
        Check.eq("something", x.sell(0, 1), 2);
        Check.eq("both", x.sell(3, 0), 2);
        x.swap(0, 1);
        Check.eq("and one has changed", x.sell(0, 2), 2);
        Check.eq("and below PRICE", x.sell(0, 2), 2);
    }

    @Says("3 one has changed;")
    private static void sellChanged() {
        NamesAgain x = town();
        x.swap(0, 1);
        Check.eq("the first", x.sell(0, 4), 3);
        Check.eq("and below PRICE", x.sell(1, 3), 3);
        x.flee(2);
        x.undo();
        x.undo();
        x.flee(2);
        Check.eq("the second", x.sell(0, 2), 3);
        x.mondays(1);
        Check.eq("on the next one", x.sell(0, 4), 0);
    }

    @Says("4 the other's purse is below PRICE")
    private static void sellPoor() {
        NamesAgain x = Check.town("name a 9;soul p 0 called a;soul q 8;soul r 9;");
        Check.eq("8 of 9", x.sell(0, 1), 4);
        Check.eq("purses stay", x.now(4), 17);
        Check.eq("9 of 9", x.sell(0, 2), 0);
        Check.eq("is 0", x.soul(2, 1), 0);
        Check.eq("and 9", x.soul(0, 1), 9);
        NamesAgain y = Check.town("name a 9;soul p 0 called a;soul q 50;soul r 5;");
        y.die(0, 1);
        y.take(1, 0);
        y.mondays(1);
        Check.eq("PRICE, though COST is half", y.sell(1, 2), 4);
        NamesAgain free = Check.town("name a 0;soul p 0 called a;soul q 0;");
        Check.eq("for 0", free.sell(0, 1), 0);
    }

    @Says("PRICE goes from it to this one's; the other one has the NAME; this one waits, behind all.")
    private static void sellDone() {
        NamesAgain x = town();
        Check.eq("to one who is not first", x.sell(0, 4), 0);
        Check.eq("this one's purse", x.soul(0, 1), 41);
        Check.eq("the other's", x.soul(4, 1), 29);
        Check.eq("it has the NAME", x.soul(4, 0), 0);
        Check.eq("who", x.name(0, 3), 4);
        Check.eq("this one is called nothing", x.soul(0, 0), NONE);
        Check.eq("waits behind all", x.soul(0, 4), 2);
        Check.eq("first", x.queue(0), 3);
        Check.eq("second", x.queue(1), 5);
        Check.eq("third", x.queue(2), 0);
        Check.eq("the debt goes with it", x.name(0, 2), 7);
        Check.eq("both have changed", x.soul(0, 5) + x.soul(4, 5), 2);
        Check.eq("not sour", x.name(0, 4), 0);
    }

    // To DIE, to HANG

    @Says("To DIE, to HANG: 1 it is dead: its NAME is free")
    private static void dieDone() {
        for (int how = 0; how < 2; how++) {
            NamesAgain x = town();
            Check.eq("dies", x.die(0, how), 0);
            Check.eq("free", x.name(0, 3), NONE);
            Check.eq("with the others", x.now(2), 25);
            Check.eq("called nothing", x.soul(0, 0), NONE);
            Check.eq("does not wait", x.soul(0, 4), NONE);
            Check.eq("dead", x.soul(0, 2), 0);
            Check.eq("its debt stays", x.name(0, 2), 7);
            Check.eq("dies again", x.die(0, 0), 1);
            Check.eq("hangs again", x.die(0, 1), 1);
            Check.eq("one who waits", x.die(4, how), 0);
            Check.eq("s", x.queue(0), 3);
            Check.eq("u", x.queue(1), 5);
            Check.eq("no third", x.queue(2), NONE);
        }
    }

    @Says("to HANG: a hanged one's from then on.")
    private static void dieHanged() {
        NamesAgain x = town();
        x.die(0, 1);
        x.die(1, 0);
        Check.eq("hanged", x.name(0, 5), 12);
        Check.eq("half", x.name(0, 1), 5);
        Check.eq("died", x.name(1, 5), 0);
        Check.eq("whole", x.name(1, 1), 4);
        x.die(3, 1);
        Check.eq("one who waits has none", x.name(3, 5) + x.name(4, 5), 0);
    }

    @Says("to HANG: a hanged one's from then on.")
    private static void dieHangedAtTheEnd() {
        NamesAgain x = town();
        x.mondays(60);
        x.mondays(60);
        x.mondays(60);
        x.mondays(15);
        x.die(0, 1);
        x.mondays(5);
        Check.eq("all are over", x.now(0), 200);
        Check.eq("seven yet", x.name(0, 5), 7);
        x.die(1, 1);
        Check.eq("behind all MONDAYS, too", x.name(1, 5), 12);
    }

    // To FLEE

    @Says("To FLEE: 1 it is dead; 2 it is called nothing; 3 it has changed")
    private static void fleeNot() {
        NamesAgain x = town();
        Check.eq("called nothing", x.flee(3), 2);
        x.swap(0, 1);
        Check.eq("has changed", x.flee(0), 3);
        x.flee(2);
        Check.eq("called nothing, and changed", x.flee(2), 2);
        x.die(2, 0);
        Check.eq("dead, and changed", x.flee(2), 1);
        x.die(0, 0);
        Check.eq("dead", x.flee(0), 1);
        x.mondays(1);
        Check.eq("on the next one", x.flee(1), 0);
    }

    @Says("its NAME is free, and sour; it waits, behind all.")
    private static void fleeDone() {
        NamesAgain x = town();
        Check.eq("flees", x.flee(0), 0);
        Check.eq("free", x.name(0, 3), NONE);
        Check.eq("sour", x.name(0, 4), 1);
        Check.eq("with the others", x.now(2), 25);
        Check.eq("behind all", x.soul(0, 4), 3);
        Check.eq("fled", x.soul(0, 6), 1);
        Check.eq("has changed", x.soul(0, 5), 1);
        Check.eq("its purse stays", x.soul(0, 1), 30);
        x.flee(1);
        Check.eq("the next one behind it", x.soul(1, 4), 4);
        NamesAgain alone = Check.town("name a 1;soul p 1 called a;");
        alone.flee(0);
        Check.eq("alone it is first", alone.soul(0, 4), 0);
    }

    // To PAY

    @Says("To PAY n: 1 it is dead; 2 it is called nothing")
    private static void payDead() {
        NamesAgain x = town();
        Check.eq("called nothing", x.pay(3, 99), 2);
        x.die(3, 0);
        Check.eq("dead", x.pay(3, 99), 1);
        x.die(0, 0);
        Check.eq("dead", x.pay(0, 1), 1);
    }

    @Says("3 n is above what its NAME owes")
    private static void payAbove() {
        NamesAgain x = town();
        Check.eq("8 of 7", x.pay(0, 8), 3);
        Check.eq("and its purse is below", x.pay(0, 99), 3);
        Check.eq("1 of 0", x.pay(2, 1), 3);
        Check.eq("7 of 7", x.pay(0, 7), 0);
        Check.eq("owes nothing", x.name(0, 2), 0);
        Check.eq("1 of 0", x.pay(0, 1), 3);
    }

    @Says("4 its purse is below n")
    private static void payBelow() {
        NamesAgain x = town();
        Check.eq("21 of 20", x.pay(1, 21), 4);
        Check.eq("99 of 20", x.pay(1, 99), 4);
        Check.eq("all stays", x.soul(1, 1), 20);
        Check.eq("20 of 20", x.pay(1, 20), 0);
        Check.eq("1 of 0", x.pay(1, 1), 4);
    }

    @Says("both are n less.")
    private static void payDone() {
        NamesAgain x = town();
        Check.eq("pays", x.pay(1, 19), 0);
        Check.eq("purse", x.soul(1, 1), 1);
        Check.eq("owes", x.name(1, 2), 80);
        Check.eq("the other's debt stays", x.name(0, 2), 7);
        Check.eq("has not changed", x.soul(1, 5), 0);
        Check.eq("pays again", x.pay(1, 1), 0);
        Check.eq("purse", x.soul(1, 1), 0);
        Check.eq("who has changed pays", x.swap(0, 1), 0);
        Check.eq("what its NAME owes now", x.pay(0, 30), 0);
        Check.eq("owes", x.name(1, 2), 49);
    }

    // A LOT

    @Says("A LOT for a NAME: 1 it is not sour, or not free")
    private static void lotNot() {
        NamesAgain x = town();
        Check.eq("not sour", x.lot(3, 1), -2);
        Check.eq("not free", x.lot(0, 1), -2);
        x.flee(0);
        Check.is("drawn", x.lot(0, 1) >= 0);
        Check.eq("sour no more", x.lot(0, 1), -2);
        x.die(x.name(0, 3), 0);
        Check.eq("free, not sour", x.lot(0, 1), -2);
        NamesAgain none = Check.town("name a 1;");
        Check.eq("and nobody waits", none.lot(0, 1), -2);
    }

    @Says("2 nobody waits")
    private static void lotNobody() {
        NamesAgain x = Check.town("name a 1;name b 1;soul p 1 called a;soul q 1 called b;");
        x.flee(0);
        x.die(0, 0);
        Check.eq("nobody waits", x.lot(0, 1), -3);
        Check.eq("sour yet", x.name(0, 4), 1);
        x.flee(1);
        Check.eq("somebody waits", x.lot(0, 1), 1);
    }

    @Says("of those who wait (in their order) the draw of how many they are has it, for nothing; it is sour no more.")
    private static void lotDone() {
        int[] found = new int[6];
        for (int seed = -20; seed < 20; seed++) {
            NamesAgain x = town();
            x.flee(0);
            x.die(4, 0);
            int[] order = {3, 5, 0};
            int draw = ((seed * 1103515245 + 12345) >>> 8) % 3;
            Check.eq("by " + seed, x.lot(0, seed), order[draw]);
            found[order[draw]]++;
            Check.eq("has it", x.soul(order[draw], 0), 0);
            Check.eq("who", x.name(0, 3), order[draw]);
            Check.eq("for nothing", x.soul(order[draw], 1), new int[] {30, 0, 0, 8, 0, 999}[order[draw]]);
            Check.eq("sour no more", x.name(0, 4), 0);
            Check.eq("waits no more", x.soul(order[draw], 4), NONE);
            Check.eq("two wait", x.now(3), 2);
            Check.eq("the first of them", x.queue(0), draw == 0 ? 5 : 3);
            Check.eq("the second of them", x.queue(1), draw == 2 ? 5 : 0);
            Check.eq("has changed", x.soul(order[draw], 5), 1);
        }
        Check.is("each was drawn", found[0] > 0 && found[3] > 0 && found[5] > 0);
    }

    @Says("(A lot, too, draws so, by its seed.)")
    private static void lotSeedsWrap() {
        for (int seed : new int[] {0, 1, -1, Integer.MAX_VALUE, Integer.MIN_VALUE, 2, 1 << 30, -12345}) {
            NamesAgain x = town();
            x.flee(0);
            long next = (seed * 1103515245L + 12345L) & 0xffffffffL;
            Check.eq("by " + seed, x.lot(0, seed), new int[] {3, 4, 5, 0}[(int) ((next >> 8) % 4)]);
        }
        NamesAgain one = Check.town("name a 1;soul p 1 called a;");
        one.flee(0);
        Check.eq("of one", one.lot(0, 77), 0);
    }

    // CHANGED, and the MONDAY

    @Says("Who takes, swaps, sells, buys, flees, is drawn has CHANGED on this MONDAY.")
    private static void changedBy() {
        NamesAgain x = town();
        x.take(3, 3);
        Check.eq("who takes", x.soul(3, 5), 1);
        x.swap(0, 1);
        Check.eq("who swaps", x.soul(0, 5) + x.soul(1, 5), 2);
        x.sell(2, 4);
        Check.eq("who sells, buys", x.soul(2, 5) + x.soul(4, 5), 2);
        Check.eq("nobody else", x.soul(5, 5), 0);
        x.mondays(1);
        x.flee(0);
        Check.eq("who flees", x.soul(0, 5), 1);
        x.lot(1, 0);
        Check.eq("who is drawn", x.soul(x.name(1, 3), 5), 1);
    }

    @Says("Who takes, swaps, sells, buys, flees, is drawn has CHANGED on this MONDAY.")
    private static void changedNotBy() {
        NamesAgain x = town();
        x.pay(0, 1);
        x.die(1, 0);
        x.die(2, 1);
        Check.eq("who pays, dies, hangs", x.soul(0, 5) + x.soul(1, 5) + x.soul(2, 5), 0);
        x.swap(0, 3);
        x.take(4, 3);
        Check.eq("what is refused", x.soul(0, 5) + x.soul(3, 5) + x.soul(4, 5), 0);
        NamesAgain y = town();
        y.flee(0);
        Check.eq("one who has changed takes", y.take(3, 3), 0);
        y.die(4, 0);
        y.die(5, 0);
        Check.eq("one who has fled takes", y.take(0, 4), 6);
        Check.eq("one who has taken dies", y.die(3, 0), 0);
        Check.eq("and has changed yet", y.soul(3, 5), 1);
    }

    @Says("A MONDAY (0 to 199; 200: all are over)")
    private static void mondayLast() {
        NamesAgain x = town();
        Check.eq("0", x.now(0), 0);
        x.mondays(60);
        x.mondays(60);
        x.mondays(60);
        x.mondays(19);
        Check.eq("199", x.now(0), 199);
        Check.eq("the last one", x.mondays(1), 1);
        Check.eq("200", x.now(0), 200);
        Check.eq("none is left", x.mondays(1), 0);
        Check.eq("200 yet", x.now(0), 200);
        Check.eq("the last one is kept", x.called(0, 199), 0);
        Check.eq("no other", x.called(0, 200), -2);
    }

    @Says("it goes: who is called what at its end is kept")
    private static void mondayKept() {
        NamesAgain x = town();
        x.swap(0, 1);
        x.mondays(1);
        x.swap(1, 2);
        x.flee(0);
        x.mondays(1);
        Check.eq("p", x.called(0, 0), 1);
        Check.eq("p then", x.called(0, 1), NONE);
        Check.eq("q", x.called(1, 0), 0);
        Check.eq("q then", x.called(1, 1), 2);
        Check.eq("r", x.called(2, 0), 2);
        Check.eq("r then", x.called(2, 1), 0);
    }

    @Says("then, on each MONDAY whose number is a multiple of EVERY, a feast falls on whoever has that NAME")
    private static void mondayFeast() {
        for (int every = 1; every <= 9; every++) {
            NamesAgain x = Check.town("name a 1;feast a " + every + ";soul p 999 called a;");
            for (int m = 0; m < 30; m++) {
                x.mondays(1);
                Check.eq("behind MONDAY " + m + " of every " + every, x.soul(0, 7), m / every + 1);
                Check.eq("the purse", x.soul(0, 1), 999 - 2 * (m / every + 1));
            }
        }
    }

    @Says("a feast falls on whoever has that NAME")
    private static void mondayFeastWho() {
        NamesAgain x = town();
        x.swap(0, 1);
        x.mondays(1);
        Check.eq("p has b now", x.soul(0, 7), 1);
        Check.eq("q has not", x.soul(1, 7), 0);
        x.mondays(1);
        x.flee(0);
        x.mondays(60);
        Check.eq("nobody has it", x.soul(0, 7) + x.soul(1, 7) + x.soul(2, 7), 1);
        NamesAgain two = Check.town("name a 1;name b 1;feast a 1;feast b 2;soul p 9 called a;soul q 9 called b;soul r 9;");
        two.mondays(2);
        Check.eq("each NAME has its own", two.soul(0, 7), 2);
        Check.eq("each NAME has its own", two.soul(1, 7), 1);
        Check.eq("who waits has none", two.soul(2, 7), 0);
    }

    @Says("(its purse is 2 less, 0 at least)")
    private static void mondayFeastPoor() {
        for (int purse = 0; purse < 5; purse++) {
            NamesAgain x = Check.town("name a 1;feast a 9;soul p " + purse + " called a;");
            x.mondays(1);
            Check.eq("purse of " + purse, x.soul(0, 1), purse < 2 ? 0 : purse - 2);
            Check.eq("a feast fell", x.soul(0, 7), 1);
        }
    }

    @Says("then it is the next one, and nobody has changed.")
    private static void mondayNext() {
        NamesAgain x = town();
        x.take(3, 3);
        x.swap(0, 1);
        x.flee(2);
        x.mondays(1);
        Check.eq("the next one", x.now(0), 1);
        for (int s = 0; s < 6; s++) {
            Check.eq("nobody has changed", x.soul(s, 5), 0);
        }
        Check.eq("sour yet", x.name(2, 4), 1);
        Check.eq("fled yet", x.soul(2, 6), 1);
    }

    // Promises 6 to 9

    @Says("NONE: no such ones.")
    private static void p06NoSuch() {
        NamesAgain x = town();
        for (int n : FAR) {
            for (int what = -1; what < 8; what++) {
                Check.eq("name(" + n + ", " + what + ")", x.name(n, what), NONE);
            }
        }
        Check.eq("name(5, 0)", x.name(5, 0), NONE);
        for (int what : new int[] {-1, 7, 8, Integer.MIN_VALUE, Integer.MAX_VALUE}) {
            Check.eq("name(0, " + what + ")", x.name(0, what), NONE);
        }
    }

    @Says("0 PRICE, 1 COST now, 2 what it owes, 3 who is called so (NONE), 4 sour (1, 0), 5 MONDAYS for which it is a hanged one's yet, 6 EVERY (NONE).")
    private static void p06Name() {
        NamesAgain x = town();
        x.die(1, 1);
        x.flee(2);
        x.mondays(2);
        int[][] due = {{11, 11, 7, 0, 0, 0, NONE}, {4, 2, 99, NONE, 0, 10, 2}, {0, 0, 0, NONE, 1, 0, NONE}, {8, 8, 0, NONE, 0, 0, NONE}};
        for (int n = 0; n < due.length; n++) {
            for (int what = 0; what < 7; what++) {
                Check.eq("name(" + n + ", " + what + ")", x.name(n, what), due[n][what]);
            }
        }
    }

    @Says("NoSuchElementException: no such ones.")
    private static void p07NoSuch() {
        NamesAgain x = town();
        for (int s : FAR) {
            Check.is("soul(" + s + ", 0)", Check.throwsNoSuch(x, s, 0));
            Check.is("soul(" + s + ", 9)", Check.throwsNoSuch(x, s, 9));
        }
        Check.is("soul(6, 0)", Check.throwsNoSuch(x, 6, 0));
        for (int what : new int[] {-1, 8, 9, Integer.MIN_VALUE, Integer.MAX_VALUE}) {
            Check.is("soul(0, " + what + ")", Check.throwsNoSuch(x, 0, what));
        }
        Check.is("soul(0, 0) is one", !Check.throwsNoSuch(x, 0, 0));
        Check.is("soul(5, 7) is one", !Check.throwsNoSuch(x, 5, 7));
        x.die(5, 0);
        Check.is("a dead one is one", !Check.throwsNoSuch(x, 5, 0));
    }

    @Says("0 its NAME (NONE), 1 purse, 2 alive (1, 0), 3 its wish (NONE), 4 how many wait ahead of it (NONE: it does not wait)")
    private static void p07Soul() {
        NamesAgain x = town();
        x.mondays(1);
        x.die(5, 0);
        x.flee(0);
        int[][] due = {{NONE, 30, 1, 1, 2, 1, 1, 0}, {1, 18, 1, NONE, NONE, 0, 0, 1}, {2, 5, 1, NONE, NONE, 0, 0, 0},
            {NONE, 8, 1, NONE, 0, 0, 0, 0}, {NONE, 40, 1, NONE, 1, 0, 0, 0}, {NONE, 999, 0, NONE, NONE, 0, 0, 0}};
        for (int s = 0; s < due.length; s++) {
            for (int what = 0; what < 8; what++) {
                Check.eq("soul(" + s + ", " + what + ")", x.soul(s, what), due[s][what]);
            }
        }
    }

    @Says("5 whether it has changed on this MONDAY, 6 whether it fled at some time (1, 0), 7 feasts.")
    private static void p07Later() {
        NamesAgain x = town();
        x.flee(1);
        Check.eq("has changed", x.soul(1, 5), 1);
        Check.eq("has fled", x.soul(1, 6), 1);
        x.mondays(60);
        Check.eq("on this MONDAY it has not", x.soul(1, 5), 0);
        Check.eq("it fled at some time", x.soul(1, 6), 1);
        Check.eq("no feast fell on it", x.soul(1, 7), 0);
        NamesAgain y = Check.town("name a 1;feast a 1;soul p 0 called a;");
        for (int i = 0; i < 4; i++) {
            y.mondays(50);
        }
        Check.eq("200 feasts", y.soul(0, 7), 200);
    }

    @Says("What a NAME is WORTH to a SOUL (0: nothing told); NONE: no such ones.")
    private static void p08Worth() {
        NamesAgain x = town();
        Check.eq("told", x.worth(3, 3), 3);
        Check.eq("nothing told", x.worth(3, 2), 0);
        Check.eq("nothing told", x.worth(2, 3), 0);
        for (int far : FAR) {
            Check.eq("worth(" + far + ", 3)", x.worth(far, 3), NONE);
            Check.eq("worth(3, " + far + ")", x.worth(3, far), NONE);
        }
        Check.eq("worth(6, 0)", x.worth(6, 0), NONE);
        Check.eq("worth(0, 5)", x.worth(0, 5), NONE);
        x.die(3, 0);
        Check.eq("to a dead one, too", x.worth(3, 3), 3);
    }

    @Says("0 the MONDAY (200: all are over), 1 who live, as bits, 2 free NAMES, as bits, 3 how many wait, 4 all purses, 5 all that NAMES owe, 6 who fled, as bits.")
    private static void p09Now() {
        NamesAgain x = town();
        x.mondays(1);
        x.flee(0);
        x.die(3, 0);
        int[] due = {1, 55, 25, 3, 1100, 106, 1};
        for (int what = 0; what < due.length; what++) {
            Check.eq("now(" + what + ")", x.now(what), due[what]);
        }
        NamesAgain nine = Check.town("soul a 999;soul b 999;soul c 999;soul d 999;soul e 999;soul f 999;soul g 999;soul h 999;soul i 999;");
        Check.eq("nine live", nine.now(1), 511);
        Check.eq("all purses", nine.now(4), 8991);
        Check.eq("nine wait", nine.now(3), 9);
        Check.eq("no NAMES", nine.now(2), 0);
        NamesAgain names = Check.town("name a 1;name b 1;name c 1;name d 1;name e 1;name f 1;name g 1;name h 1;name i 1;"
            + "debt a 99;debt b 99;debt c 99;debt d 99;debt e 99;debt f 99;debt g 99;debt h 99;debt i 99;");
        Check.eq("nine are free", names.now(2), 511);
        Check.eq("all debts", names.now(5), 891);
    }

    @Says("NONE for another what.")
    private static void p09AnotherWhat() {
        NamesAgain x = town();
        for (int what : new int[] {-1, 7, 8, Integer.MIN_VALUE, Integer.MAX_VALUE}) {
            Check.eq("now(" + what + ")", x.now(what), NONE);
        }
    }

    // Promises 10 to 17: no such ones

    @Says("A SOUL TAKES a NAME: 0, or why not; NONE: no such ones.")
    private static void p10NoSuch() {
        NamesAgain x = town();
        String ahead = all(x);
        for (int far : FAR) {
            Check.eq("take(" + far + ", 3)", x.take(far, 3), NONE);
            Check.eq("take(3, " + far + ")", x.take(3, far), NONE);
        }
        Check.eq("take(6, 3)", x.take(6, 3), NONE);
        Check.eq("take(3, 5)", x.take(3, 5), NONE);
        Check.is("all stays", all(x).equals(ahead));
        Check.eq("nothing was done", x.undo(), NONE);
    }

    @Says("Two SWAP: 0, or why not; NONE: no such ones, alike.")
    private static void p11NoSuch() {
        NamesAgain x = town();
        for (int far : FAR) {
            Check.eq("swap(" + far + ", 0)", x.swap(far, 0), NONE);
            Check.eq("swap(0, " + far + ")", x.swap(0, far), NONE);
            Check.eq("swap of two such", x.swap(far, far), NONE);
        }
        Check.eq("swap(6, 0)", x.swap(6, 0), NONE);
        Check.eq("swap(0, 6)", x.swap(0, 6), NONE);
        x.die(5, 0);
        for (int s = 0; s < 6; s++) {
            Check.eq("alike " + s, x.swap(s, s), NONE);
        }
    }

    @Says("The first SELLS to the second: 0, or why not; NONE: no such ones, alike.")
    private static void p12NoSuch() {
        NamesAgain x = town();
        for (int far : FAR) {
            Check.eq("sell(" + far + ", 3)", x.sell(far, 3), NONE);
            Check.eq("sell(0, " + far + ")", x.sell(0, far), NONE);
        }
        Check.eq("sell(6, 3)", x.sell(6, 3), NONE);
        Check.eq("sell(0, 6)", x.sell(0, 6), NONE);
        x.die(5, 0);
        for (int s = 0; s < 6; s++) {
            Check.eq("alike " + s, x.sell(s, s), NONE);
        }
    }

    @Says("It DIES (how 0), HANGS (1): 0, or why not; NONE: no such ones.")
    private static void p13NoSuch() {
        NamesAgain x = town();
        for (int far : FAR) {
            Check.eq("die(" + far + ", 0)", x.die(far, 0), NONE);
        }
        Check.eq("die(6, 0)", x.die(6, 0), NONE);
        for (int how : new int[] {-1, 2, 3, Integer.MIN_VALUE, Integer.MAX_VALUE}) {
            Check.eq("die(0, " + how + ")", x.die(0, how), NONE);
        }
        Check.eq("all live", x.now(1), 63);
        x.die(0, 0);
        Check.eq("another how of a dead one", x.die(0, 2), NONE);
        for (int s = 1; s < 6; s++) {
            Check.eq("the rest die", x.die(s, s % 2), 0);
        }
        Check.eq("none live", x.now(1), 0);
        Check.eq("all are free", x.now(2), 31);
        Check.eq("none wait", x.now(3), 0);
    }

    @Says("It FLEES: 0, or why not; NONE: no such one.")
    private static void p14NoSuch() {
        NamesAgain x = town();
        for (int far : FAR) {
            Check.eq("flee(" + far + ")", x.flee(far), NONE);
        }
        Check.eq("flee(6)", x.flee(6), NONE);
        Check.eq("nobody fled", x.now(6), 0);
    }

    @Says("It PAYS n (1 to 99): 0, or why not; NONE: no such ones.")
    private static void p15NoSuch() {
        NamesAgain x = Check.town("name a 1;debt a 99;soul p 999 called a;soul q 9;");
        for (int n : new int[] {0, -1, 100, Integer.MIN_VALUE, Integer.MAX_VALUE}) {
            Check.eq("pay(0, " + n + ")", x.pay(0, n), NONE);
            Check.eq("pay(1, " + n + ")", x.pay(1, n), NONE);
        }
        for (int far : FAR) {
            Check.eq("pay(" + far + ", 1)", x.pay(far, 1), NONE);
        }
        Check.eq("pay(2, 1)", x.pay(2, 1), NONE);
        Check.eq("99", x.pay(0, 99), 0);
        x.undo();
        Check.eq("1", x.pay(0, 1), 0);
        Check.eq("owes", x.name(0, 2), 98);
    }

    @Says("who has it; NONE: no such one, -2: 1, -3: 2 as above.")
    private static void p16NoSuch() {
        NamesAgain x = town();
        for (int far : FAR) {
            Check.eq("lot(" + far + ", 1)", x.lot(far, 1), NONE);
        }
        Check.eq("lot(5, 1)", x.lot(5, 1), NONE);
        Check.eq("nothing was done", x.undo(), NONE);
    }

    @Says("n (1 to 60) MONDAYS go by: how many did; NONE: not as told.")
    private static void p17NotAsTold() {
        NamesAgain x = town();
        for (int n : new int[] {0, -1, 61, 1000, Integer.MIN_VALUE, Integer.MAX_VALUE}) {
            Check.eq("mondays(" + n + ")", x.mondays(n), NONE);
            Check.eq("none went", x.now(0), 0);
        }
        Check.eq("1", x.mondays(1), 1);
        for (int i = 0; i < 3; i++) {
            Check.eq("60", x.mondays(60), 60);
        }
        Check.eq("19 are left", x.mondays(60), 19);
        Check.eq("none is left", x.mondays(60), 0);
        Check.eq("not as told, though", x.mondays(61), NONE);
    }

    // Promise 18

    @Says("The latest of take(), swap(), sell(), die(), flee(), pay(), lot() that was done")
    private static void p18Each() {
        for (int act = 0; act < 9; act++) {
            NamesAgain x = town();
            x.flee(2);
            String ahead = all(x);
            int answer = act == 0 ? x.take(3, 3) : act == 1 ? x.swap(0, 1) : act == 2 ? x.sell(0, 4) : act == 3 ? x.die(0, 0)
                : act == 4 ? x.die(0, 1) : act == 5 ? x.flee(0) : act == 6 ? x.pay(0, 7) : act == 7 ? x.lot(2, 5) : x.mondays(60);
            Check.is("done " + act, answer == 0 || act > 6 && answer > 0);
            Check.is("something is so " + act, !all(x).equals(ahead));
            Check.eq("undone " + act, x.undo(), 1);
            Check.is("as ahead of " + act, all(x).equals(ahead));
        }
    }

    @Says("The latest of take(), swap(), sell(), die(), flee(), pay(), lot() that was done")
    private static void p18NotDone() {
        NamesAgain x = town();
        int[] refused = {x.take(4, 3), x.swap(0, 3), x.sell(3, 4), x.die(9, 0), x.flee(3), x.pay(0, 8), x.lot(3, 1), x.mondays(0),
            x.drawn(0, 1), x.mondays(61), x.drawn(61, 1)};
        for (int answer : refused) {
            Check.is("refused", answer != 0);
        }
        Check.eq("none can be undone", x.undo(), NONE);
        x.die(0, 0);
        x.swap(0, 3);
        x.wishes();
        x.odds(1, 5, 5);
        x.party();
        Check.eq("the death is the latest", x.undo(), 0);
        Check.eq("it lives", x.soul(0, 2), 1);
    }

    @Says("mondays() above 0, drawn() above 0")
    private static void p18AboveZero() {
        NamesAgain x = town();
        for (int i = 0; i < 4; i++) {
            x.mondays(50);
        }
        Check.eq("none is left", x.mondays(5), 0);
        Check.eq("none is left", x.drawn(5, 5), 0);
        Check.eq("these are not undone", x.undo(), 3);
        Check.eq("but those above 0", x.now(0), 150);
        String ahead = all(x);
        Check.eq("drawn", x.drawn(60, 3), 50);
        Check.eq("undone", x.undo(), 3);
        Check.is("as ahead of it", all(x).equals(ahead));
    }

    @Says("a ROLL that was lived is undone")
    private static void p18Roll() {
        NamesAgain x = town();
        String ahead = all(x);
        Check.eq("lived", Check.roll(x, "p dies;q flees;monday 9;r hangs;", 1), NONE);
        Check.eq("undone at once", x.undo(), 0);
        Check.is("as ahead of it", all(x).equals(ahead));
        Check.eq("lived in part", Check.roll(x, "p dies;p dies;", 1), 1);
        Check.eq("undone", x.undo(), 0);
        Check.is("as ahead of it", all(x).equals(ahead));
        Check.eq("WRONG at once", Check.roll(x, "s flees;", 1), 0);
        Check.eq("lived as far as it was not", x.undo(), 0);
        Check.eq("an empty one", x.roll(1), NONE);
        Check.eq("was lived, too", x.undo(), 0);
        Check.is("as ahead of them", all(x).equals(ahead));
        Check.roll(x, "p dies;", 0);
        Check.eq("a judged one is not", x.undo(), NONE);
        Check.roll(x, "p dies;!", 1);
        Check.eq("one with a FAULT is not", x.undo(), NONE);
    }

    @Says("how many more can be (4 at most are kept); NONE: none is.")
    private static void p18Four() {
        NamesAgain x = town();
        Check.eq("none", x.undo(), NONE);
        for (int done = 1; done <= 6; done++) {
            for (int i = 0; i < done; i++) {
                x.die(i, 0);
            }
            for (int more = Math.min(done, 4) - 1; more >= 0; more--) {
                Check.eq("more of " + done, x.undo(), more);
            }
            Check.eq("none is left", x.undo(), NONE);
            Check.eq("those beyond four stay", x.now(1), 63 & -(1 << Math.max(0, done - 4)));
            x = town();
        }
    }

    @Says("how many more can be (4 at most are kept); NONE: none is.")
    private static void p18Again() {
        NamesAgain x = town();
        for (int i = 0; i < 30; i++) {
            String ahead = all(x);
            x.pay(0, 1);
            x.pay(0, 2);
            Check.is("undone", x.undo() >= 0);
            x.swap(0, 1);
            x.undo();
            Check.is("undone", x.undo() >= 0);
            Check.is("as ahead of them", all(x).equals(ahead));
            x.mondays(1);
        }
        Check.eq("the oldest gave way to what was undone later", x.undo(), 2);
    }
}
