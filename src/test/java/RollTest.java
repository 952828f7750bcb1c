/** Promises 38, 39 and 41 to 43: ROLLS judged and lived, what may be said of whom, images. */
public final class RollTest {
    private static final int NONE = NamesAgain.NONE;
    private static final String TOWN = "name anna 10;name otto 20;name ida 5;name max 8;debt anna 7;feast otto 2;"
        + "soul s 30 called anna;soul t 50 called otto;soul u 4;soul v 40;soul w 0 called ida;wish s otto;wish w ida;";

    public static void main(String[] args) {
        reasons();
        judged();
        lived();
        undone();
        said();
        saidLater();
        images();
        imagesOfSentences();
        Check.close();
    }

    private static void wrong(String text, int line, int reason) {
        NamesAgain x = Check.town(TOWN);
        Check.eq("roll of " + text, Check.roll(x, text, 0), line);
        Check.eq("fault of " + text, x.fault(), 0);
        Check.eq("why of " + text, x.rolled(0), reason);
        if (line != NONE) {
            Check.eq("LINES that are not WRONG of " + text, x.rolled(1), line);
        }
    }

    private static void reasons() {
        wrong("", NONE, 0);
        wrong("u dies; u takes max;", 1, 1);
        wrong("s takes max;", 0, 2);
        wrong("u takes anna;", 0, 3);
        wrong("w flees; u takes ida;", 1, 4);
        wrong("v takes max;", 0, 5);
        wrong("u takes max;", 0, 6);
        wrong("u dies; v takes max;", NONE, 0);
        wrong("u dies; s swaps u;", 1, 11);
        wrong("s swaps u;", 0, 12);
        wrong("s swaps t; t swaps w;", 1, 13);
        wrong("s swaps s;", 0, 19);
        wrong("u dies; s sells u;", 1, 21);
        wrong("s sells t;", 0, 22);
        wrong("s sells v; t sells s;", 1, 23);
        wrong("s sells u;", 0, 24);
        wrong("s sells s;", 0, 29);
        wrong("s dies; s dies;", 1, 31);
        wrong("s hangs; s hangs;", 1, 31);
        wrong("s dies; s flees;", 1, 41);
        wrong("u flees;", 0, 42);
        wrong("s swaps t; s flees;", 1, 43);
        wrong("s dies; s pays 1;", 1, 51);
        wrong("u pays 1;", 0, 52);
        wrong("s pays 8;", 0, 53);
        wrong("s swaps w; w pays 7;", 1, 54);
        wrong("monday 60; monday 60; monday 60; monday 21;", 3, 61);
        wrong("monday 60; monday 60; monday 60; monday 20;", NONE, 0);
        wrong("s swaps t; monday 1; s swaps t; s pays 7; s flees; s dies;", 4, 43);
    }

    private static void judged() {
        NamesAgain x = Check.town(TOWN);
        String ahead = ActTest.all(x);
        Check.eq("judged", Check.roll(x, "w flees; monday 3; s sells v; u takes max; monday 1;", 0), 3);
        Check.is("all stays", ActTest.all(x).equals(ahead));
        Check.eq("why", x.rolled(0), 6);
        Check.eq("LINES", x.rolled(1), 3);
        Check.eq("the MONDAY then", x.rolled(2), 3);
        Check.eq("who wait then", x.rolled(3), 3);
        Check.eq("rolled(4)", x.rolled(4), NONE);
        Check.eq("rolled(-1)", x.rolled(-1), NONE);
        Check.eq("nothing to undo", x.undo(), NONE);
        Check.eq("a FAULT", Check.roll(x, "dies;", 1), -2);
        Check.eq("-1000", x.roll(7), -1000);
        Check.eq("the one without a FAULT counts", x.rolled(2), 3);
    }

    private static void lived() {
        NamesAgain x = Check.town(TOWN);
        NamesAgain y = Check.town(TOWN);
        Check.eq("lived", Check.roll(x, "s pays 2; u hangs; v takes max; t flees; monday 4; w hangs; s swaps t; s dies;", 1), 6);
        y.pay(0, 2);
        y.die(2, 1);
        y.take(3, 3);
        y.flee(1);
        y.mondays(4);
        y.die(4, 1);
        Check.is("as the same acts", ActTest.all(x).equals(ActTest.all(y)));
        Check.eq("why", x.rolled(0), 12);
        Check.eq("LINES", x.rolled(1), 6);
        Check.eq("the MONDAY then", x.rolled(2), 4);
        Check.eq("who wait then", x.rolled(3), 1);
        Check.eq("a hanging is none of a death", x.name(2, 5), 12);
    }

    private static void undone() {
        NamesAgain x = Check.town(TOWN);
        String ahead = ActTest.all(x);
        Check.roll(x, "s dies; t dies; monday 9;", 1);
        Check.eq("undone at once", x.undo(), 0);
        Check.is("as ahead of it", ActTest.all(x).equals(ahead));
        Check.roll(x, "s dies; s dies;", 1);
        Check.eq("a WRONG one was lived, too", x.undo(), 0);
        Check.is("as ahead of it", ActTest.all(x).equals(ahead));
        Check.eq("nothing more", x.undo(), NONE);
    }

    private static void said(NamesAgain x, String text, int... souls) {
        Check.is("a SENTENCE: " + text, Check.sentence(x, text) > 0);
        Check.eq("how many: " + text, x.said(NONE), souls.length);
        for (int k = 0; k < souls.length; k++) {
            Check.eq("said(" + k + "): " + text, x.said(k), souls[k]);
        }
        Check.eq("none such: " + text, x.said(souls.length), NONE);
        Check.eq("said(-2): " + text, x.said(-2), NONE);
    }

    private static void said() {
        NamesAgain x = Check.town(TOWN);
        x.swap(0, 1);
        x.flee(4);
        x.die(3, 0);
        x.mondays(1);
        said(x, "alive", 0, 1, 2, 4);
        said(x, "not alive", 3);
        said(x, "not number = 1", 0, 2, 3, 4);
        said(x, "waits", 2, 4);
        said(x, "called anna", 1);
        said(x, "called ida");
        said(x, "fled", 4);
        said(x, "glad", 0);
        said(x, "purse > 28", 1, 3);
        said(x, "purse = 28", 0);
        said(x, "purse < 4", 4);
        said(x, "owes > 0", 1);
        said(x, "owes = 0", 0, 2, 3, 4);
        said(x, "feasts = 1", 0);
        said(x, "number < 2", 0, 1);
        said(x, "number > 2", 3, 4);
        said(x, "alive or fled and number = 3", 0, 1, 2, 4);
        said(x, "(alive or fled) and number = 0", 0);
        said(x, "not alive or number = 0", 0, 3);
        said(x, "not (alive or number = 0)", 3);
        said(x, "not not waits and not fled", 2);
        said(x, "number = 1 or number = 2 and number = 1", 1);
        said(x, "number < 3 and number > 0 and (number = 1 or number = 4)", 1);
    }

    private static void saidLater() {
        NamesAgain x = Check.town(TOWN);
        Check.sentence(x, "waits and alive");
        Check.eq("now", x.said(NONE), 2);
        x.flee(0);
        Check.eq("later", x.said(NONE), 3);
        x.undo();
        Check.eq("undone", x.said(NONE), 2);
        Check.sentence(x, "alive");
        x.die(0, 0);
        Check.sentence(x, "not alive");
        x.undo();
        Check.eq("undo leaves the SENTENCE", x.said(NONE), 0);
    }

    private static void images() {
        NamesAgain x = Check.town(TOWN);
        Check.is("restore(0) of nothing", !x.restore(0));
        Check.is("image(2)", !x.image(2));
        Check.is("image(-1)", !x.image(-1));
        x.drawn(9, 4);
        String first = ActTest.all(x);
        Check.is("image(0)", x.image(0));
        x.drawn(20, 5);
        String second = ActTest.all(x);
        Check.is("image(1)", x.image(1));
        Check.put(x, "name other 3;soul o 5;soul p 5;soul q 6;");
        x.town();
        Check.put(x, "tape");
        Check.is("restore(0)", x.restore(0));
        Check.is("as it was", ActTest.all(x).equals(first));
        Check.eq("the tape stays", x.count(2), 4);
        x.end(0);
        Check.eq("nothing can be undone", x.undo(), NONE);
        Check.eq("WORDS, too", Check.roll(x, "s swaps t;", 0) >= -1 ? 1 : 0, 1);
        Check.is("restore(1)", x.restore(1));
        Check.is("as it was", ActTest.all(x).equals(second));
        x.mondays(5);
        Check.eq("undone again", x.undo(), 0);
        Check.is("restore(2)", !x.restore(2));
        Check.is("restore(-1)", !x.restore(-1));
        Check.is("restore(1) again", x.restore(1));
        Check.is("image(0) anew", x.image(0));
        Check.is("restore(0)", x.restore(0));
        Check.is("is the new one", ActTest.all(x).equals(second));
    }

    private static void imagesOfSentences() {
        NamesAgain x = Check.town(TOWN);
        x.image(0);
        Check.sentence(x, "waits");
        x.image(1);
        x.wishes();
        x.least(2);
        Check.sentence(x, "alive x");
        Check.sentence(x, "number = 0 or number = 1 or number = 2");
        Check.is("restore(1)", x.restore(1));
        Check.eq("its SENTENCE", x.said(NONE), 2);
        Check.eq("told last stays", x.cheapest(), 2);
        Check.is("restore(0)", x.restore(0));
        Check.eq("no SENTENCE", x.said(NONE), NONE);
        Check.eq("a TOWN leaves images", x.town(), 0);
        Check.is("restore(1)", x.restore(1));
        Check.eq("its SENTENCE", x.said(1), 3);
        Check.eq("its worths and wishes", x.soul(4, 3), 2);
    }
}
