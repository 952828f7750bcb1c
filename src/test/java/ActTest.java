/** Promises 6 to 18: what is so in a TOWN, the acts, and acts undone. */
public final class ActTest {
    private static final int NONE = NamesAgain.NONE;
    private static final String TOWN = "name anna 10;name otto 21;name ida 5;name max 8;debt anna 7;feast otto 2;"
        + "soul s 30 called anna;soul t 50 called otto;soul u 4;soul v 40;soul w 0 called ida;"
        + "wish s otto;worth u max 9;";

    public static void main(String[] args) {
        told();
        takes();
        hangedOnes();
        swaps();
        sells();
        deaths();
        flights();
        payments();
        lots();
        lotDraws();
        mondays();
        feasts();
        undone();
        undoneFour();
        Check.close();
    }

    private static NamesAgain town() {
        return Check.town(TOWN);
    }

    private static void told() {
        NamesAgain x = town();
        int[][] names = {{10, 10, 7, 0, 0, 0, NONE}, {21, 21, 0, 1, 0, 0, 2}, {5, 5, 0, 4, 0, 0, NONE}, {8, 8, 0, NONE, 0, 0, NONE}};
        for (int n = 0; n < 4; n++) {
            for (int what = 0; what < 7; what++) {
                Check.eq("name(" + n + ", " + what + ")", x.name(n, what), names[n][what]);
            }
        }
        int[][] souls = {{0, 30, 1, 1, NONE, 0, 0, 0}, {1, 50, 1, NONE, NONE, 0, 0, 0}, {NONE, 4, 1, NONE, 0, 0, 0, 0},
            {NONE, 40, 1, NONE, 1, 0, 0, 0}, {2, 0, 1, NONE, NONE, 0, 0, 0}};
        for (int s = 0; s < 5; s++) {
            for (int what = 0; what < 8; what++) {
                Check.eq("soul(" + s + ", " + what + ")", x.soul(s, what), souls[s][what]);
            }
        }
        int[] now = {0, 31, 8, 2, 124, 7, 0, NONE};
        for (int what = 0; what < 8; what++) {
            Check.eq("now(" + what + ")", x.now(what), now[what]);
        }
        Check.eq("now(-1)", x.now(-1), NONE);
        Check.eq("name(4, 0)", x.name(4, 0), NONE);
        Check.eq("name(-1, 0)", x.name(-1, 0), NONE);
        Check.eq("name(0, 7)", x.name(0, 7), NONE);
        Check.eq("name(0, -1)", x.name(0, -1), NONE);
        Check.is("soul(5, 0)", Check.throwsNoSuch(x, 5, 0));
        Check.is("soul(-1, 0)", Check.throwsNoSuch(x, -1, 0));
        Check.is("soul(0, 8)", Check.throwsNoSuch(x, 0, 8));
        Check.is("soul(0, -1)", Check.throwsNoSuch(x, 0, -1));
        Check.eq("worth(2, 3)", x.worth(2, 3), 9);
        Check.eq("worth(2, 2)", x.worth(2, 2), 0);
        Check.eq("worth(5, 0)", x.worth(5, 0), NONE);
        Check.eq("worth(0, 4)", x.worth(0, 4), NONE);
        Check.eq("worth(-1, 0)", x.worth(-1, 0), NONE);
        Check.eq("worth(0, -1)", x.worth(0, -1), NONE);
    }

    private static void takes() {
        NamesAgain x = town();
        Check.eq("called something", x.take(0, 3), 2);
        Check.eq("not free", x.take(3, 0), 3);
        Check.eq("somebody ahead", x.take(3, 3), 5);
        Check.eq("too poor", x.take(2, 3), 6);
        x.die(2, 0);
        Check.eq("dead", x.take(2, 3), 1);
        Check.eq("taken", x.take(3, 3), 0);
        Check.eq("purse", x.soul(3, 1), 32);
        Check.eq("bearer", x.name(3, 3), 3);
        Check.eq("changed", x.soul(3, 5), 1);
        Check.eq("waits no more", x.soul(3, 4), NONE);
        Check.eq("nobody waits", x.now(3), 0);
        x.flee(4);
        Check.eq("sour", x.take(4, 2), 4);
        Check.eq("take(5, 0)", x.take(5, 0), NONE);
        Check.eq("take(0, 4)", x.take(0, 4), NONE);
        Check.eq("take(-1, 0)", x.take(-1, 0), NONE);
        Check.eq("take(0, -1)", x.take(0, -1), NONE);
        NamesAgain even = Check.town("name n 8;soul s 8;");
        Check.eq("the whole purse", even.take(0, 0), 0);
        Check.eq("is empty", even.soul(0, 1), 0);
        NamesAgain again = Check.town("name n 8;name m 1;soul s 8 called n;");
        again.flee(0);
        Check.eq("who has changed may take", again.take(0, 1), 0);
    }

    private static void hangedOnes() {
        NamesAgain x = town();
        Check.eq("hangs", x.die(1, 1), 0);
        for (int yet = 12; yet > 0; yet--) {
            Check.eq("yet", x.name(1, 5), yet);
            Check.eq("half, cut", x.name(1, 1), 10);
            Check.eq("PRICE", x.name(1, 0), 21);
            x.mondays(1);
        }
        Check.eq("over", x.name(1, 5), 0);
        Check.eq("whole", x.name(1, 1), 21);
        x.undo();
        x.die(2, 0);
        Check.eq("taken for half", x.take(3, 1), 0);
        Check.eq("purse", x.soul(3, 1), 30);
        Check.eq("a hanged one's while it is called so", x.name(1, 5), 1);
        Check.eq("hangs too", x.die(3, 1), 0);
        Check.eq("anew", x.name(1, 5), 12);
        Check.eq("a death that is no hanging", x.die(0, 0), 0);
        Check.eq("leaves the COST", x.name(0, 1), 10);
        NamesAgain waits = Check.town("name n 9;soul s 1;");
        Check.eq("hangs without a NAME", waits.die(0, 1), 0);
        Check.eq("no NAME is its", waits.name(0, 5), 0);
    }

    private static void swaps() {
        NamesAgain x = town();
        Check.eq("alike", x.swap(0, 0), NONE);
        Check.eq("swap(0, 5)", x.swap(0, 5), NONE);
        Check.eq("swap(-1, 0)", x.swap(-1, 0), NONE);
        Check.eq("called nothing", x.swap(0, 2), 2);
        Check.eq("nor the first", x.swap(2, 0), 2);
        Check.eq("swapped", x.swap(0, 1), 0);
        Check.eq("name of s", x.soul(0, 0), 1);
        Check.eq("name of t", x.soul(1, 0), 0);
        Check.eq("bearers", x.name(0, 3), 1);
        Check.eq("bearers", x.name(1, 3), 0);
        Check.eq("t has changed", x.soul(1, 5), 1);
        Check.eq("one has changed", x.swap(4, 1), 3);
        Check.eq("the first has", x.swap(0, 4), 3);
        x.die(4, 0);
        Check.eq("dead", x.swap(0, 4), 1);
        Check.eq("dead", x.swap(4, 0), 1);
        x.mondays(1);
        Check.eq("on the next MONDAY", x.swap(1, 0), 0);
    }

    private static void sells() {
        NamesAgain x = town();
        Check.eq("alike", x.sell(0, 0), NONE);
        Check.eq("sell(0, 5)", x.sell(0, 5), NONE);
        Check.eq("sell(-1, 0)", x.sell(-1, 0), NONE);
        Check.eq("called nothing", x.sell(2, 3), 2);
        Check.eq("the other called something", x.sell(0, 1), 2);
        Check.eq("too poor", x.sell(0, 2), 4);
        Check.eq("sold", x.sell(0, 3), 0);
        Check.eq("seller's purse", x.soul(0, 1), 40);
        Check.eq("buyer's purse", x.soul(3, 1), 30);
        Check.eq("buyer's NAME", x.soul(3, 0), 0);
        Check.eq("bearer", x.name(0, 3), 3);
        Check.eq("the debt goes with the NAME", x.name(0, 2), 7);
        Check.eq("seller waits behind all", x.soul(0, 4), 1);
        Check.eq("buyer does not", x.soul(3, 4), NONE);
        Check.eq("seller has changed", x.soul(0, 5), 1);
        Check.eq("buyer has changed", x.soul(3, 5), 1);
        Check.eq("to one that has", x.sell(1, 0), 3);
        Check.eq("by one that has", x.sell(3, 2), 3);
        x.die(4, 0);
        Check.eq("dead", x.sell(4, 2), 1);
        Check.eq("to a dead one", x.sell(1, 4), 1);
        NamesAgain hanged = Check.town("name n 9;soul s 9 called n;soul t 99;soul u 5;");
        hanged.die(0, 1);
        hanged.take(1, 0);
        hanged.mondays(1);
        Check.eq("sold for PRICE, not COST", hanged.sell(1, 2), 4);
        NamesAgain even = Check.town("name n 9;soul s 0 called n;soul t 9;");
        Check.eq("for the whole purse", even.sell(0, 1), 0);
        Check.eq("which is empty", even.soul(1, 1), 0);
    }

    private static void deaths() {
        NamesAgain x = town();
        Check.eq("die(5, 0)", x.die(5, 0), NONE);
        Check.eq("die(-1, 0)", x.die(-1, 0), NONE);
        Check.eq("die(0, 2)", x.die(0, 2), NONE);
        Check.eq("die(0, -1)", x.die(0, -1), NONE);
        Check.eq("dies", x.die(0, 0), 0);
        Check.eq("again", x.die(0, 0), 1);
        Check.eq("hangs then", x.die(0, 1), 1);
        Check.eq("free", x.now(2), 9);
        Check.eq("called nothing", x.soul(0, 0), NONE);
        Check.eq("does not wait", x.soul(0, 4), NONE);
        Check.eq("not alive", x.soul(0, 2), 0);
        Check.eq("who live", x.now(1), 30);
        Check.eq("all purses", x.now(4), 124);
        Check.eq("its wish", x.soul(0, 3), 1);
        Check.eq("one that waits dies", x.die(2, 0), 0);
        Check.eq("the one behind it is first", x.queue(0), 3);
    }

    private static void flights() {
        NamesAgain x = town();
        Check.eq("flee(5)", x.flee(5), NONE);
        Check.eq("flee(-1)", x.flee(-1), NONE);
        Check.eq("called nothing", x.flee(2), 2);
        x.swap(0, 1);
        Check.eq("has changed", x.flee(0), 3);
        Check.eq("flees", x.flee(4), 0);
        Check.eq("sour", x.name(2, 4), 1);
        Check.eq("free", x.now(2), 12);
        Check.eq("waits behind all", x.soul(4, 4), 2);
        Check.eq("fled", x.soul(4, 6), 1);
        Check.eq("who fled", x.now(6), 16);
        Check.eq("has changed", x.soul(4, 5), 1);
        x.die(4, 0);
        Check.eq("dead", x.flee(4), 1);
        Check.eq("fled at some time", x.now(6), 16);
    }

    private static void payments() {
        NamesAgain x = town();
        Check.eq("pay(5, 1)", x.pay(5, 1), NONE);
        Check.eq("pay(-1, 1)", x.pay(-1, 1), NONE);
        Check.eq("pay(0, 0)", x.pay(0, 0), NONE);
        Check.eq("pay(0, 100)", x.pay(0, 100), NONE);
        Check.eq("called nothing", x.pay(2, 1), 2);
        Check.eq("above", x.pay(0, 8), 3);
        Check.eq("pays", x.pay(0, 3), 0);
        Check.eq("purse", x.soul(0, 1), 27);
        Check.eq("owes", x.name(0, 2), 4);
        Check.eq("all owe", x.now(5), 4);
        Check.eq("has not changed", x.soul(0, 5), 0);
        x.swap(0, 4);
        Check.eq("too poor", x.pay(4, 4), 4);
        x.die(0, 0);
        Check.eq("dead", x.pay(0, 1), 1);
        NamesAgain even = Check.town("name n 9;debt n 99;soul s 99 called n;");
        Check.eq("the whole debt by the whole purse", even.pay(0, 99), 0);
        Check.eq("nothing is owed", even.now(5), 0);
        Check.eq("and nothing left", even.now(4), 0);
    }

    private static void lots() {
        NamesAgain x = town();
        Check.eq("lot(4, 1)", x.lot(4, 1), NONE);
        Check.eq("lot(-1, 1)", x.lot(-1, 1), NONE);
        Check.eq("not sour", x.lot(3, 1), -2);
        Check.eq("not free", x.lot(0, 1), -2);
        x.flee(0);
        int drawn = x.lot(0, 77);
        Check.is("of those who wait", drawn == 2 || drawn == 3 || drawn == 0);
        Check.eq("has it", x.name(0, 3), drawn);
        Check.eq("sour no more", x.name(0, 4), 0);
        Check.eq("changed", x.soul(drawn, 5), 1);
        Check.eq("two wait", x.now(3), 2);
        Check.eq("for nothing", x.now(4), 124);
        NamesAgain alone = Check.town("name n 1;soul s 1 called n;");
        alone.flee(0);
        alone.die(0, 0);
        Check.eq("nobody waits", alone.lot(0, 1), -3);
    }

    private static void lotDraws() {
        for (int seed = -3; seed < 40; seed++) {
            NamesAgain x = town();
            x.flee(0);
            int[] order = {2, 3, 0};
            int next = seed * 1103515245 + 12345;
            Check.eq("lot by " + seed, x.lot(0, seed), order[(next >>> 8) % 3]);
        }
    }

    private static void mondays() {
        NamesAgain x = town();
        Check.eq("mondays(0)", x.mondays(0), NONE);
        Check.eq("mondays(61)", x.mondays(61), NONE);
        Check.eq("mondays(-1)", x.mondays(-1), NONE);
        for (int i = 1; i <= 3; i++) {
            Check.eq("sixty", x.mondays(60), 60);
        }
        Check.eq("the rest", x.mondays(60), 20);
        Check.eq("all are over", x.now(0), 200);
        Check.eq("none", x.mondays(1), 0);
        Check.eq("undone is the one above 0", x.undo(), 3);
        Check.eq("MONDAY", x.now(0), 180);
    }

    private static void feasts() {
        NamesAgain x = Check.town("name n 1;feast n 3;soul s 5 called n;");
        int[] purses = {3, 3, 3, 1, 1, 1, 0, 0, 0, 0};
        int[] feasts = {1, 1, 1, 2, 2, 2, 3, 3, 3, 4};
        for (int m = 0; m < purses.length; m++) {
            x.mondays(1);
            Check.eq("purse behind " + m, x.soul(0, 1), purses[m]);
            Check.eq("feasts behind " + m, x.soul(0, 7), feasts[m]);
        }
        x.die(0, 0);
        x.mondays(9);
        Check.eq("none on a dead one", x.soul(0, 7), 4);
    }

    /** What can be asked of all NAMES and SOULS, as one text. */
    static String all(NamesAgain x) {
        StringBuilder text = new StringBuilder();
        for (int what = 0; what < 7; what++) {
            text.append(x.now(what)).append(' ');
            for (int n = 0; n < x.count(0); n++) {
                text.append(x.name(n, what)).append(' ');
            }
        }
        for (int s = 0; s < x.count(1); s++) {
            for (int what = 0; what < 8; what++) {
                text.append(x.soul(s, what)).append(' ');
            }
            text.append(x.queue(s)).append(' ');
            for (int m = 0; m < 200; m++) {
                text.append(x.called(s, m)).append(' ');
            }
        }
        return text.toString();
    }

    private static void undone() {
        NamesAgain x = town();
        x.flee(4);
        x.mondays(2);
        for (int act = 0; act < 9; act++) {
            String ahead = all(x);
            int answer = act == 0 ? x.die(2, 0) : act == 1 ? x.swap(0, 1) : act == 2 ? x.sell(0, 3) : act == 3 ? x.die(0, 1)
                : act == 4 ? x.flee(1) : act == 5 ? x.pay(0, 2) : act == 6 ? x.lot(2, 3) & 0 : act == 7 ? x.mondays(3) - 3
                : x.drawn(5, 9) - 5;
            Check.eq("act " + act, answer, 0);
            Check.is("something is so that was not", !all(x).equals(ahead));
            Check.is("undone", x.undo() >= 0);
            Check.is("act " + act + " undone", all(x).equals(ahead));
        }
        x.die(2, 0);
        String ahead = all(x);
        Check.eq("takes", x.take(3, 3), 0);
        Check.is("undone", x.undo() >= 0);
        Check.is("a take undone", all(x).equals(ahead));
        Check.eq("not done", x.swap(0, 2), 1);
        Check.is("the death is the latest", x.undo() >= 0 && x.soul(2, 2) == 1);
    }

    private static void undoneFour() {
        NamesAgain x = town();
        Check.eq("nothing", x.undo(), NONE);
        for (int s = 0; s < 5; s++) {
            x.die(s, 0);
        }
        for (int more = 3; more >= 0; more--) {
            Check.eq("more", x.undo(), more);
        }
        Check.eq("four are kept", x.undo(), NONE);
        Check.eq("the first stays", x.now(1), 30);
        x.die(1, 0);
        Check.put(x, "Name");
        x.town();
        Check.eq("a TOWN with a FAULT leaves it", x.undo(), 0);
        x.die(1, 0);
        Check.put(x, TOWN);
        x.town();
        Check.eq("a new TOWN has nothing to undo", x.undo(), NONE);
    }
}
