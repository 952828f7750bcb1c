import java.util.ArrayList;
import java.util.List;

/** Promises 19 to 37: what is asked of a TOWN, and MONDAYS by draws. */
public final class AskTest {
    private static final int NONE = NamesAgain.NONE;

    public static void main(String[] args) {
        past();
        ledgers();
        wishes();
        wishesNever();
        partners();
        allWishes();
        biddings();
        mustComeFree();
        votes();
        parties();
        least();
        feasts();
        queue();
        drawn();
        drawnByHand();
        odds();
        oddsFromTheStart();
        Check.close();
    }

    private static NamesAgain pastTown() {
        NamesAgain x = Check.town("name a 1;name b 1;soul s 9 called a;soul t 9 called b;soul u 9;");
        x.mondays(2);
        x.swap(0, 1);
        x.mondays(1);
        x.die(0, 0);
        x.mondays(1);
        return x;
    }

    private static void past() {
        NamesAgain x = pastTown();
        int[][] called = {{0, 0, 1, NONE}, {1, 1, 0, 0}, {NONE, NONE, NONE, NONE}};
        int[][] holder = {{0, 0, 1, 1}, {1, 1, 0, NONE}};
        for (int m = 0; m < 4; m++) {
            for (int s = 0; s < 3; s++) {
                Check.eq("called(" + s + ", " + m + ")", x.called(s, m), called[s][m]);
            }
            for (int n = 0; n < 2; n++) {
                Check.eq("holder(" + n + ", " + m + ")", x.holder(n, m), holder[n][m]);
            }
        }
        Check.eq("called yet", x.called(0, 4), -2);
        Check.eq("called ahead", x.called(0, -1), -2);
        Check.eq("called(3, 0)", x.called(3, 0), -2);
        Check.eq("called(-1, 0)", x.called(-1, 0), -2);
        Check.eq("holder yet", x.holder(0, 4), -2);
        Check.eq("holder ahead", x.holder(0, -1), -2);
        Check.eq("holder(2, 0)", x.holder(2, 0), -2);
        Check.eq("holder(-1, 0)", x.holder(-1, 0), -2);
        Check.eq("bearers(0)", x.bearers(0), 2);
        Check.eq("bearers(1)", x.bearers(1), 2);
        Check.eq("bearers(2)", x.bearers(2), NONE);
        Check.eq("bearers(-1)", x.bearers(-1), NONE);
        Check.eq("howLong(0, 0)", x.howLong(0, 0), 2);
        Check.eq("howLong(0, 1)", x.howLong(0, 1), 1);
        Check.eq("howLong(2, 1)", x.howLong(2, 1), 0);
        Check.eq("howLong(3, 0)", x.howLong(3, 0), NONE);
        Check.eq("howLong(0, 2)", x.howLong(0, 2), NONE);
        NamesAgain last = Check.town("name a 1;soul s 9 called a;");
        for (int i = 0; i < 4; i++) {
            last.mondays(60);
        }
        Check.eq("the last MONDAY", last.called(0, 199), 0);
        Check.eq("none behind it", last.called(0, 200), -2);
        Check.eq("all of them", last.howLong(0, 0), 200);
    }

    private static int ledger(NamesAgain x, int... names) {
        byte[] bytes = new byte[names.length];
        for (int i = 0; i < names.length; i++) {
            bytes[i] = (byte) names[i];
        }
        Check.put(x, bytes);
        int answer = x.ledger();
        Check.eq("the tape behind a ledger", x.count(2), 0);
        return answer;
    }

    private static void ledgers() {
        NamesAgain x = pastTown();
        Check.eq("s", ledger(x, 0, 0, 1), 1);
        Check.eq("s to the end", ledger(x, 0, 0, 1, 255), 1);
        Check.eq("t", ledger(x, 1, 1, 0, 0), 2);
        Check.eq("u", ledger(x, 255), 4);
        Check.eq("nobody", ledger(x, 0, 1), 0);
        Check.eq("no byte", ledger(x), NONE);
        Check.eq("more than MONDAYS", ledger(x, 0, 0, 1, 255, 255), NONE);
        Check.eq("no NAME", ledger(x, 0, 2), NONE);
        Check.eq("254", ledger(x, 254), NONE);
        Check.eq("two alike", ledger(Check.town("soul s 1;soul t 1;")), NONE);
        NamesAgain two = Check.town("soul s 1;soul t 1;");
        two.mondays(1);
        Check.eq("two who waited", ledger(two, 255), 3);
    }

    private static void wishes() {
        String four = "name a 1;name b 1;name c 1;name d 1;soul p 1 called a;soul q 1 called b;soul r 1 called c;soul s 1 called d;";
        String[] told = {"", "wish p a;", "wish p b;", "wish p b;wish q a;", "wish p b;wish q a;wish r d;wish s c;",
            "wish p b;wish q c;", "wish p b;wish q c;wish r a;", "wish p b;wish q c;wish r d;wish s a;", "wish p b;wish r d;",
            "wish p b;wish q c;wish s d;", "wish p b;wish q c;wish r d;"};
        int[] mondays = {0, 0, 1, 1, 1, 2, 2, 2, 1, 2, 2};
        int[] swaps = {0, 0, 1, 1, 2, 2, 2, 3, 2, 2, 3};
        for (int i = 0; i < told.length; i++) {
            NamesAgain x = Check.town(four + told[i]);
            Check.eq("wishes of " + told[i], x.wishes(), mondays[i]);
            Check.eq("swaps of " + told[i], x.swaps(), swaps[i]);
        }
    }

    private static void wishesNever() {
        String two = "name a 1;name b 1;name c 1;soul p 1 called a;soul q 1 called b;soul r 1;";
        String[] told = {"wish r a;", "wish p c;", "wish p b;wish q b;"};
        for (String wish : told) {
            NamesAgain x = Check.town(two + wish);
            Check.eq("wishes of " + wish, x.wishes(), NONE);
            Check.eq("swaps of " + wish, x.swaps(), NONE);
            for (int s = 0; s < 3; s++) {
                Check.eq("partner of " + wish, x.partner(s), NONE);
            }
        }
        NamesAgain x = Check.town(two + "wish r a;wish p b;");
        x.die(2, 0);
        Check.eq("a dead one's wish is none", x.wishes(), 1);
        x.die(1, 0);
        Check.eq("nobody is called so", x.wishes(), NONE);
    }

    private static void partners() {
        NamesAgain x = Check.town("name a 1;name b 1;name c 1;soul p 1 called a;soul q 1 called b;soul r 1 called c;wish p b;");
        Check.eq("ahead of any", x.partner(0), NONE);
        x.swaps();
        Check.eq("swaps() tells no partner", x.partner(0), NONE);
        Check.eq("wishes", x.wishes(), 1);
        Check.eq("p", x.partner(0), 1);
        Check.eq("q", x.partner(1), 0);
        Check.eq("r", x.partner(2), NONE);
        Check.eq("partner(3)", x.partner(3), NONE);
        Check.eq("partner(-1)", x.partner(-1), NONE);
        Check.eq("has changed", x.swap(0, 1), 0);
        Check.eq("the latest wishes() counts", x.partner(0), 1);
        Check.eq("wishes", x.wishes(), 0);
        Check.eq("of something else", x.partner(0), NONE);
    }

    /** Every way in which four SOULS can wish, against a search through all swaps. */
    private static void allWishes() {
        for (int code = 0; code < 625; code++) {
            int[] wish = {code % 5 - 1, code / 5 % 5 - 1, code / 25 % 5 - 1, code / 125 - 1};
            StringBuilder text = new StringBuilder("name a 1;name b 1;name c 1;name d 1;");
            for (int s = 0; s < 4; s++) {
                text.append("soul ").append((char) ('p' + s)).append(" 1 called ").append((char) ('a' + s)).append(';');
            }
            for (int s = 0; s < 4; s++) {
                if (wish[s] != NONE) {
                    text.append("wish ").append((char) ('p' + s)).append(' ').append((char) ('a' + wish[s])).append(';');
                }
            }
            NamesAgain x = Check.town(text.toString());
            Check.eq("wishes of " + text, x.wishes(), search(wish, true));
            Check.eq("swaps of " + text, x.swaps(), search(wish, false));
        }
    }

    private static int search(int[] wish, boolean byMondays) {
        List<String> seen = new ArrayList<>(List.of("0123"));
        int from = 0;
        for (int far = 0; far < 10; far++) {
            int till = seen.size();
            for (int i = from; i < till; i++) {
                if (isGlad(seen.get(i), wish)) {
                    return far;
                }
            }
            for (int i = from; i < till; i++) {
                for (String next : oneFar(seen.get(i), byMondays)) {
                    if (!seen.contains(next)) {
                        seen.add(next);
                    }
                }
            }
            from = till;
        }
        return NONE;
    }

    private static List<String> oneFar(String names, boolean byMondays) {
        List<String> found = new ArrayList<>();
        for (int s = 0; s < 4; s++) {
            for (int t = s + 1; t < 4; t++) {
                String once = swapped(names, s, t);
                found.add(once);
                int u = s != 0 ? 0 : t != 1 ? 1 : 2;
                int v = 6 - s - t - u;
                if (byMondays) {
                    found.add(swapped(once, u, v));
                }
            }
        }
        return found;
    }

    private static String swapped(String names, int s, int t) {
        char[] row = names.toCharArray();
        row[s] = names.charAt(t);
        row[t] = names.charAt(s);
        return new String(row);
    }

    private static boolean isGlad(String names, int[] wish) {
        for (int s = 0; s < 4; s++) {
            if (wish[s] != NONE && names.charAt(s) != '0' + wish[s]) {
                return false;
            }
        }
        return true;
    }

    private static void biddings() {
        NamesAgain x = Check.town("name a 5;name b 5;name c 5;name d 5;soul s 3;soul t 20;soul u 20;soul v 0;soul w 50 called a;"
            + "worth s a 9;worth t a 7;worth u a 7;worth w a 40;worth u b 30;worth s c 9;worth t c 2;worth v d 9;");
        Check.eq("of like ones who waits ahead", x.bidder(0), 1);
        Check.eq("for the second most", x.bid(0), 7);
        Check.eq("one alone", x.bidder(1), 2);
        Check.eq("for nothing", x.bid(1), 0);
        Check.eq("the purse at most", x.bidder(2), 0);
        Check.eq("second", x.bid(2), 2);
        Check.eq("a WORTH of 1", Check.town("name a 5;soul s 3;worth s a 1;").bidder(0), 0);
        Check.eq("a bid of an empty purse", x.bidder(3), 3);
        Check.eq("for nothing", x.bid(3), 0);
        x.die(3, 0);
        Check.eq("nobody bids", x.bidder(3), NONE);
        Check.eq("nobody bids", x.bid(3), NONE);
        Check.eq("bidder(4)", x.bidder(4), NONE);
        Check.eq("bidder(-1)", x.bidder(-1), NONE);
        Check.eq("bid(4)", x.bid(4), NONE);
        Check.eq("bid(-1)", x.bid(-1), NONE);
        x.sell(4, 1);
        Check.eq("who waits last bids too", x.bidder(0), 4);
        Check.eq("second", x.bid(0), 7);
    }

    private static void mustComeFree() {
        NamesAgain x = Check.town("name a 1;name b 1;name c 1;soul s 1 called a;soul t 1 called b;soul u 1;old s 0;old t 199;old u 3;");
        Check.eq("must(0)", x.must(0), 5);
        Check.eq("must(198)", x.must(198), 5);
        Check.eq("must(199)", x.must(199), 7);
        Check.eq("must(200)", x.must(200), NONE);
        Check.eq("must(-1)", x.must(-1), NONE);
        x.mondays(1);
        Check.eq("none dies by itself", x.now(1), 7);
        x.swap(0, 1);
        Check.eq("by who is called so", x.must(0), 6);
        x.die(1, 0);
        x.die(0, 0);
        Check.eq("all free", x.must(0), 7);
    }

    private static void votes() {
        NamesAgain x = Check.town("name a 1;name b 1;soul s 1 called a;soul t 1 called b;soul u 1;soul v 1;");
        int[] sets = {0, 1, 3, 5, 13, 14, 12, 15};
        int[] due = {0, 0, 1, 0, 1, 1, 0, 1};
        for (int i = 0; i < sets.length; i++) {
            Check.eq("votes(" + sets[i] + ")", x.votes(sets[i]), due[i]);
        }
        Check.eq("votes(16)", x.votes(16), NONE);
        Check.eq("votes(-1)", x.votes(-1), NONE);
        x.die(3, 0);
        Check.eq("a dead one may be named", x.votes(13), 1);
        Check.eq("u alone waits", x.votes(5), 1);
        x.die(2, 0);
        Check.eq("one of two is not more than half", x.votes(1), 0);
        Check.eq("both", x.votes(3), 1);
    }

    private static void parties() {
        NamesAgain x = Check.town("name a 1;name b 1;soul u 1;soul v 1;soul s 1 called a;soul t 1 called b;");
        Check.eq("two called ones", x.party(), 12);
        x.die(0, 0);
        Check.eq("of like ones the least", x.party(), 6);
        x.die(2, 0);
        Check.eq("both are needed", x.party(), 10);
        x.die(1, 0);
        Check.eq("one", x.party(), 8);
        x.die(3, 0);
        Check.eq("none", x.party(), NONE);
    }

    private static void least() {
        NamesAgain x = Check.town("name a 10;name b 6;name c 6;name d 20;soul s 1 called a;soul t 1 called b;soul u 99;soul v 0;soul w 1 called c;");
        Check.eq("of those sold", x.least(3), 6);
        Check.eq("the first", x.cheapest(), 1);
        Check.eq("does not wait", x.least(0), NONE);
        Check.eq("it stays", x.cheapest(), 1);
        x.swap(1, 4);
        Check.eq("of who has not changed", x.least(3), 10);
        Check.eq("which", x.cheapest(), 0);
        x.die(0, 1);
        Check.eq("COST of a hanged one's", x.least(2), 5);
        Check.eq("which", x.cheapest(), 0);
        Check.eq("taken", x.take(2, 0), 0);
        Check.eq("a free one", x.least(3), 20);
        Check.eq("which", x.cheapest(), 3);
        x.mondays(1);
        Check.eq("flees", x.flee(1), 0);
        Check.eq("has changed: free ones alone, not sour", x.least(1), 20);
        Check.eq("another may buy", x.least(3), 6);
        Check.eq("least(5)", x.least(5), NONE);
        Check.eq("least(-1)", x.least(-1), NONE);
        NamesAgain none = Check.town("soul s 1;");
        Check.eq("no NAMES", none.least(0), NONE);
        Check.eq("no NAME", none.cheapest(), NONE);
    }

    private static void feasts() {
        NamesAgain x = Check.town("name a 1;name b 1;feast a 3;");
        Check.eq("MONDAY 0", x.feasts(0, 1), 1);
        Check.eq("three", x.feasts(0, 3), 1);
        Check.eq("four", x.feasts(0, 4), 2);
        Check.eq("99", x.feasts(0, 99), 33);
        Check.eq("no feast", x.feasts(1, 99), 0);
        Check.eq("feasts(0, 100)", x.feasts(0, 100), NONE);
        Check.eq("feasts(0, 0)", x.feasts(0, 0), NONE);
        Check.eq("feasts(2, 1)", x.feasts(2, 1), NONE);
        Check.eq("feasts(-1, 1)", x.feasts(-1, 1), NONE);
        x.mondays(1);
        Check.eq("two from 1", x.feasts(0, 2), 0);
        x.mondays(60);
        x.mondays(60);
        x.mondays(60);
        x.mondays(14);
        Check.eq("till all are over", x.feasts(0, 99), 2);
        x.mondays(5);
        Check.eq("over", x.feasts(0, 99), 0);
    }

    private static void queue() {
        NamesAgain x = Check.town("name a 1;soul s 1;soul t 1 called a;soul u 1;");
        Check.eq("first", x.queue(0), 0);
        Check.eq("second", x.queue(1), 2);
        Check.eq("third", x.queue(2), NONE);
        Check.eq("queue(-1)", x.queue(-1), NONE);
        x.flee(1);
        Check.eq("behind all", x.queue(2), 1);
    }

    private static void drawn() {
        NamesAgain x = Check.town("name a 1;soul s 1;");
        Check.eq("drawn(0, 1)", x.drawn(0, 1), NONE);
        Check.eq("drawn(61, 1)", x.drawn(61, 1), NONE);
        Check.eq("no SOULS", Check.town("name a 1;").drawn(1, 1), NONE);
        Check.eq("no NAMES", Check.town("soul s 1;").drawn(1, 1), NONE);
        Check.eq("sixty", x.drawn(60, 1), 60);
        x.drawn(60, 1);
        x.drawn(60, 1);
        Check.eq("the rest", x.drawn(60, 1), 20);
        Check.eq("all are over", x.drawn(1, 1), 0);
        Check.eq("undone is the one above 0", x.undo(), 3);
        Check.eq("MONDAY", x.now(0), 180);
    }

    /** The draws of one MONDAY written out, for SOULS that are called a, b or wait. */
    private static void drawnByHand() {
        for (int seed = 0; seed < 4000; seed++) {
            NamesAgain x = Check.town("name a 1;name b 1;name c 1;soul s 9 called a;soul t 9;soul u 9 called b;");
            NamesAgain y = Check.town("name a 1;name b 1;name c 1;soul s 9 called a;soul t 9;soul u 9 called b;");
            Check.eq("one MONDAY", x.drawn(1, seed), 1);
            int draw = seed;
            for (int s = 0; s < 3; s++) {
                draw = draw * 1103515245 + 12345;
                int what = (draw >>> 8) % 8;
                draw = what == 0 || what == 1 || what == 3 ? draw * 1103515245 + 12345 : draw;
                if (what == 0) {
                    y.swap(s, (draw >>> 8) % 3);
                } else if (what == 1) {
                    y.take(s, (draw >>> 8) % 3);
                } else if (what == 2) {
                    y.flee(s);
                } else if (what == 3 && (draw >>> 8) % 5 == 0) {
                    y.die(s, 0);
                }
            }
            y.mondays(1);
            Check.is("drawn by " + seed, all(x).equals(all(y)));
        }
    }

    private static void oddsFromTheStart() {
        for (int seed = 0; seed < 3000; seed += 30) {
            NamesAgain x = Check.town("name a 0;name b 0;name c 0;name d 0;soul s 9 called a;soul t 9;soul u 9 called b;");
            int called = 0;
            for (int i = 0; i < 30; i++) {
                x.drawn(20, seed + i);
                called += x.soul(2, 0) == NONE ? 0 : 1;
                x.undo();
            }
            Check.eq("odds from " + seed, x.odds(2, 30, seed), called);
            x.drawn(20, seed);
            int alone = x.soul(2, 0) == NONE ? 0 : 1;
            x.undo();
            Check.eq("odds of one seed", x.odds(2, 1, seed), alone);
        }
    }

    private static void odds() {
        String text = "name a 1;name b 1;soul s 9 called a;soul t 9;soul u 9 called b;";
        NamesAgain x = Check.town(text);
        x.mondays(60);
        x.mondays(60);
        x.mondays(55);
        for (int far = 0; far < 3; far++) {
            for (int s = 0; s < 3; s++) {
                int called = 0;
                for (int seed = 0; seed < 30; seed++) {
                    x.drawn(20, Integer.MAX_VALUE - 5 + seed);
                    called += x.soul(s, 0) == NONE ? 0 : 1;
                    x.undo();
                }
                String ahead = all(x);
                Check.eq("odds of " + s, x.odds(s, 30, Integer.MAX_VALUE - 5), called);
                Check.is("all stays", all(x).equals(ahead));
            }
            x.mondays(12);
        }
        Check.eq("odds(3, 1, 1)", x.odds(3, 1, 1), NONE);
        Check.eq("odds(-1, 1, 1)", x.odds(-1, 1, 1), NONE);
        Check.eq("odds(0, 0, 1)", x.odds(0, 0, 1), NONE);
        Check.eq("odds(0, 31, 1)", x.odds(0, 31, 1), NONE);
        Check.eq("no NAMES", Check.town("soul s 1;").odds(0, 1, 1), NONE);
    }

    private static String all(NamesAgain x) {
        return ActTest.all(x);
    }
}
