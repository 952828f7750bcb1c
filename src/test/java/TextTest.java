/** Promises 1 to 5, 40 and 44: the tape, and the texts that are read off it, with their FAULTS. */
public final class TextTest {
    private static final String NINE_NAMES =
        "name a 1;name b 1;name c 1;name d 1;name e 1;name f 1;name g 1;name h 1;name i 1;";
    static final String[] OWN_WORDS = ("name debt feast soul called wish worth old takes swaps sells dies hangs flees pays "
        + "monday or and not alive waits fled glad purse owes feasts number").split(" ");
    private static final String NINE_SOULS = NINE_NAMES.replace("name", "soul");

    public static void main(String[] args) {
        newObject();
        tape();
        goodTowns();
        tokenFaults();
        lineFaults();
        wordFaults();
        ownWords();
        tooMany();
        tooLong();
        rollFaults();
        longRolls();
        sentences();
        sentenceFaults();
        latestFault();
        Check.close();
    }

    private static void newObject() {
        NamesAgain x = new NamesAgain();
        for (int what = 0; what < 3; what++) {
            Check.eq("count of a new object", x.count(what), 0);
        }
        Check.eq("count(3)", x.count(3), NamesAgain.NONE);
        Check.eq("count(-1)", x.count(-1), NamesAgain.NONE);
        Check.eq("fault ahead of any", x.fault(), 0);
        Check.eq("rolled ahead of any", x.rolled(0), NamesAgain.NONE);
        Check.eq("cheapest ahead of any", x.cheapest(), NamesAgain.NONE);
        Check.eq("said without a SENTENCE", x.said(-1), NamesAgain.NONE);
        Check.eq("undo of nothing", x.undo(), NamesAgain.NONE);
    }

    private static void tape() {
        NamesAgain x = new NamesAgain();
        for (int i = 1; i <= 47; i++) {
            Check.eq("feed", x.feed(i, i, i, i, i), 20 * i);
        }
        Check.eq("feed beyond 940", x.feed(1, 1, 1, 1, 1), NamesAgain.NONE);
        Check.eq("none came", x.count(2), 940);
        Check.is("end(941) is false", !x.end(941));
        Check.is("end(-1) is false", !x.end(-1));
        Check.is("end(940)", x.end(940));
        Check.is("end(921)", x.end(921));
        Check.eq("feed at 921", x.feed(1, 1, 1, 1, 1), NamesAgain.NONE);
        Check.is("end(920)", x.end(920));
        Check.eq("feed at 920", x.feed(1, 1, 1, 1, 1), 940);
        Check.is("end(0)", x.end(0));
        Check.is("end(1) of nothing is false", !x.end(1));
        Check.eq("an empty tape", x.count(2), 0);
    }

    private static void goodTowns() {
        NamesAgain x = Check.town("name anna 099;\nname\nb 0 ; debt b 0;soul s 999\ncalled anna;old s 199;worth s b 99;");
        Check.eq("fault", x.fault(), 0);
        Check.eq("names", x.count(0), 2);
        Check.eq("souls", x.count(1), 1);
        Check.eq("bytes", x.count(2), 0);
    }

    private static void tokenFaults() {
        Check.townFault("Name n 1;", 1, 0);
        Check.townFault("name n1 1;", 1, 5);
        Check.townFault("name 1n 1;", 1, 5);
        Check.townFault("name abcdefgh 1;", 1, 5);
        Check.townFault("name n 0001;", 1, 7);
        Check.townFault("name\tn 1;", 1, 4);
        Check.townFault("name n 1.", 1, 8);
        Check.townFault("name n 1;\u00ff", 1, 9);
        Check.townFault("name n -1;", 1, 7);
        Check.townFault("namen 1;", 1, 0);
        Check.townFault("names n 1;", 1, 0);
        Check.townFault("5;", 1, 0);
        Check.townFault(";", 1, 0);
        NamesAgain x = Check.town("name abcdefg 1;");
        Check.eq("a WORD of seven", x.count(0), 1);
        Check.eq("all small letters", Check.town("name az 1;debt az 09;soul zz 1;").count(1), 1);
        NamesAgain empty = Check.town("  \n ");
        Check.eq("blanks alone", empty.count(0), 0);
    }

    private static void lineFaults() {
        Check.townFault("name", 1, 4);
        Check.townFault("name ", 1, 5);
        Check.townFault("name n", 1, 6);
        Check.townFault("name n 1", 1, 8);
        Check.townFault("name n 1  ", 1, 10);
        Check.townFault("name n 1;;", 1, 9);
        Check.townFault("name 1 n;", 1, 5);
        Check.townFault("name n n;", 1, 7);
        Check.townFault("name n 100;", 2, 7);
        Check.townFault("name n 1;debt n 100;", 2, 16);
        Check.townFault("name n 1;debt 1 n;", 1, 14);
        Check.townFault("name n 1;feast n 0;", 2, 17);
        Check.townFault("name n 1;feast n 10;", 2, 17);
        Check.townFault("soul s 1000;", 1, 7);
        Check.townFault("name n 1;soul s 99called n;", 1, 16);
        Check.townFault("soul s 1 name;", 1, 9);
        Check.townFault("soul s 1 called;", 1, 15);
        Check.townFault("name n 1;soul s 1;worth s n 0;", 2, 28);
        Check.townFault("name n 1;soul s 1;worth s n 100;", 2, 28);
        Check.townFault("soul s 1;old s 200;", 2, 15);
        Check.townFault("soul s 1;old s;", 1, 14);
        Check.townFault("name n 1;soul s 1;wish s 1;", 1, 25);
        Check.townFault("name n 1;soul s 1;wish 1 n;", 1, 23);
    }

    private static void wordFaults() {
        Check.townFault("name n 1;name n 1;", 3, 14);
        Check.townFault("name n 1;soul n 1;", 3, 14);
        Check.townFault("soul n 1;name n 1;", 3, 14);
        Check.townFault("debt n 1;", 3, 5);
        Check.townFault("soul s 1;debt s 1;", 3, 14);
        Check.townFault("name n 1;debt n 0;debt n 1;", 3, 23);
        Check.townFault("name n 1;feast n 1;feast n 1;", 3, 25);
        Check.townFault("soul s 1 called n;name n 1;", 3, 16);
        Check.townFault("name n 1;soul s 1 called s;", 3, 25);
        Check.townFault("name n 1;soul s 1 called n;soul t 1 called n;", 3, 43);
        Check.townFault("name n 1;soul s 1;wish n n;", 3, 23);
        Check.townFault("name n 1;soul s 1;wish s s;", 3, 25);
        Check.townFault("name n 1;soul s 1;wish s n;wish s n;", 3, 32);
        Check.townFault("name n 1;soul s 1;worth s n 1;worth s n 1;", 3, 38);
        Check.townFault("soul s 1;old s 0;old s 1;", 3, 21);
    }

    /** The document's own WORDS can't come where a NAME or a SOUL must, be it told there or known. */
    private static void ownWords() {
        for (String own : OWN_WORDS) {
            Check.townFault("name " + own + " 1;", 1, 5);
            Check.townFault("soul " + own + " 1;", 1, 5);
            Check.townFault("debt " + own + " 1;", 1, 5);
            Check.townFault("feast " + own + " 1;", 1, 6);
            Check.townFault("wish " + own + " n;", 1, 5);
            Check.townFault("worth " + own + " n 1;", 1, 6);
            Check.townFault("old " + own + " 1;", 1, 4);
            Check.townFault("soul s 1 called " + own + ";", 1, 16);
            Check.townFault("soul s 1;wish s " + own + ";", 1, 16);
            Check.townFault("soul s 1;worth s " + own + " 1;", 1, 17);
            if (!own.equals("monday")) {
                rollFault(own + " dies;", 1, 0);
                rollFault(Check.times("monday 1;", 40) + own + " dies;", 1, 360);
            }
            rollFault("s takes " + own + ";", 1, 8);
            rollFault("s swaps " + own + ";", 1, 8);
            rollFault("s sells " + own + ";", 1, 8);
            sentenceFault("called " + own, 1, 7);
            Check.eq("a WORD like '" + own + "'", Check.town("name " + own.substring(1) + "x 1;").count(0), 1);
        }
        Check.townFault("soul name 1000;", 1, 5);
        Check.townFault("name glad 1;\0\0\0\0\0\0\0\0", 1, 5);
    }

    private static void tooMany() {
        Check.townFault(NINE_NAMES + "name j 1;", 4, 81);
        Check.townFault(NINE_NAMES + "name 1;", 4, 81);
        Check.townFault(NINE_SOULS + " soul j 1;", 4, 82);
        NamesAgain x = Check.town(NINE_NAMES + NINE_SOULS.replace("soul ", "soul s"));
        Check.eq("nine names", x.count(0), 9);
        Check.eq("nine souls", x.count(1), 9);
    }

    private static void tooLong() {
        String line = "name n 1;";
        Check.town(line + Check.times(" ", 891));
        Check.townFault(line + Check.times(" ", 892), 1, 900);
        Check.townFault(line + Check.times(" ", 880) + "debt n 100 ;     ", 2, 896);
        Check.townFault(line + Check.times(" ", 890) + "debt n 1;", 1, 900);
        Check.townFault(line + Check.times(" ", 890) + "debtxxxxx n 1;", 1, 899);
        Check.townFault(line + Check.times(" ", 891) + "Debt", 1, 900);
        Check.townFault(line + Check.times(" ", 891) + ";", 1, 900);
        Check.townFault(line + Check.times(" ", 888) + "debtx", 1, 897);
        Check.townFault(line + Check.times(" ", 881) + "soul s 1;old s", 1, 900);
    }

    static NamesAgain two() {
        return Check.town("name n 1;name m 2;soul s 9 called n;soul t 9;");
    }

    static void rollFault(String text, int kind, int place) {
        for (int lives = 0; lives < 2; lives++) {
            NamesAgain x = two();
            Check.eq("roll of '" + text + "'", Check.roll(x, text, lives), -2 - place);
            Check.eq("fault of '" + text + "'", x.fault(), kind);
            Check.eq("rolled behind '" + text + "'", x.rolled(0), NamesAgain.NONE);
            Check.eq("the tape behind '" + text + "'", x.count(2), 0);
            Check.eq("nothing is lived of '" + text + "'", x.undo(), NamesAgain.NONE);
        }
    }

    private static void rollFaults() {
        rollFault("s", 1, 1);
        rollFault("s dies", 1, 6);
        rollFault("s dies dies;", 1, 7);
        rollFault("s name n;", 1, 2);
        rollFault("s ;", 1, 2);
        rollFault("1 dies;", 1, 0);
        rollFault("x dies;", 3, 0);
        rollFault("n dies;", 3, 0);
        rollFault("s takes t;", 3, 8);
        rollFault("s takes x;", 3, 8);
        rollFault("s takes 1;", 1, 8);
        rollFault("s swaps n;", 3, 8);
        rollFault("s sells n;", 3, 8);
        rollFault("s pays 0;", 2, 7);
        rollFault("s pays 100;", 2, 7);
        rollFault("s pays n;", 1, 7);
        rollFault("monday 0;", 2, 7);
        rollFault("monday 61;", 2, 7);
        rollFault("monday;", 1, 6);
        rollFault("s flees;s hangs;t takes n;monday 1;t pays 1;t takes", 1, 51);
    }

    private static void longRolls() {
        String forty = Check.times("monday 1;", 40);
        NamesAgain x = two();
        Check.eq("forty LINES", Check.roll(x, forty, 0), NamesAgain.NONE);
        Check.eq("forty LINES are not WRONG", x.rolled(1), 40);
        rollFault(forty + "monday 1;", 4, 360);
        rollFault(forty + "monday x;", 4, 360);
        rollFault(forty + " s dies;", 4, 361);
        rollFault(forty + "x dies;", 3, 360);
        rollFault(forty + "; dies;", 1, 360);
        rollFault(forty + Check.times(" ", 41), 1, 400);
        rollFault("s dies;" + Check.times(" ", 391) + "s diess;", 1, 400);
        rollFault("s dies;" + Check.times(" ", 391) + "x dies;", 3, 398);
        rollFault("s dies;" + Check.times(" ", 391) + "t\nabcdefgh;", 1, 400);
        rollFault("s dies;" + Check.times(" ", 390) + "t abcdefgh;", 1, 399);
        Check.eq("400 bytes", Check.roll(two(), forty + Check.times(" ", 40), 0), NamesAgain.NONE);
    }

    static void sentenceGood(String text, int ones) {
        NamesAgain x = two();
        Check.eq("sentence '" + text + "'", Check.sentence(x, text), ones);
        Check.eq("fault of '" + text + "'", x.fault(), 0);
        Check.eq("the tape behind '" + text + "'", x.count(2), 0);
    }

    private static void sentences() {
        sentenceGood("alive", 1);
        sentenceGood("not alive", 2);
        sentenceGood("(alive)", 2);
        sentenceGood("not(alive or waits)and called n", 5);
        sentenceGood("purse<5 or owes=0 or feasts>999 and number = 007", 4);
        sentenceGood("fled or glad", 2);
        sentenceGood(Check.times("not ", 7) + "alive", 8);
        sentenceGood(Check.times("(", 7) + "alive" + Check.times(")", 7), 8);
        sentenceGood("alive" + Check.times(" or fled", 19), 20);
        sentenceGood("alive" + Check.times(" ", 195), 1);
    }

    static void sentenceFault(String text, int kind, int place) {
        NamesAgain x = two();
        Check.sentence(x, "number = 1");
        Check.eq("sentence '" + text + "'", Check.sentence(x, text), -1 - place);
        Check.eq("fault of '" + text + "'", x.fault(), kind);
        Check.eq("the SENTENCE stays behind '" + text + "'", x.said(0), 1);
        Check.eq("the tape behind '" + text + "'", x.count(2), 0);
    }

    private static void sentenceFaults() {
        sentenceFault("", 1, 0);
        sentenceFault("alive alive", 1, 6);
        sentenceFault("alive or", 1, 8);
        sentenceFault("or alive", 1, 0);
        sentenceFault("alive;", 1, 5);
        sentenceFault("alive)", 1, 5);
        sentenceFault("(alive", 1, 6);
        sentenceFault("()", 1, 1);
        sentenceFault("n", 1, 0);
        sentenceFault("5", 1, 0);
        sentenceFault("called", 1, 6);
        sentenceFault("called s", 3, 7);
        sentenceFault("called x", 3, 7);
        sentenceFault("called 5", 1, 7);
        sentenceFault("purse 5", 1, 6);
        sentenceFault("purse ( 5", 1, 6);
        sentenceFault("purse < n", 1, 8);
        sentenceFault("purse <= 5", 1, 7);
        sentenceFault("purse < 1000", 1, 8);
        sentenceFault(Check.times("not ", 8) + "alive", 4, 32);
        sentenceFault(Check.times("not ", 8) + "or", 1, 32);
        sentenceFault(Check.times("(", 8) + "alive" + Check.times(")", 8), 4, 8);
        sentenceFault("alive" + Check.times(" or fled", 19) + " or alive", 4, 161);
        sentenceFault("alive" + Check.times(" or fled", 19) + " or dead", 1, 161);
        sentenceFault("alive" + Check.times(" or fled", 19) + " or not fled", 4, 161);
        sentenceFault("alive" + Check.times(" ", 196), 1, 200);
        sentenceFault(Check.times(" ", 198) + "alivex", 1, 198);
        sentenceFault(Check.times(" ", 198) + "alive", 1, 200);
    }

    private static void latestFault() {
        NamesAgain x = two();
        Check.put(x, "x");
        x.town();
        Check.eq("a town's FAULT", x.fault(), 1);
        Check.put(x, "x dies;");
        Check.eq("another lives", x.roll(2), -1000);
        Check.eq("roll(-1)", x.roll(-1), -1000);
        Check.eq("it leaves the FAULT", x.fault(), 1);
        Check.eq("and the tape", x.count(2), 7);
        Check.eq("the ROLL has a FAULT", x.roll(0), -2);
        Check.eq("a roll's FAULT", x.fault(), 3);
        Check.eq("a good ROLL", Check.roll(x, "", 0), NamesAgain.NONE);
        Check.eq("no FAULT", x.fault(), 0);
        Check.sentence(x, "number = 1");
        Check.put(x, "name k 5;");
        Check.eq("a new TOWN", x.town(), 1);
        Check.eq("no SENTENCE in it", x.said(-1), NamesAgain.NONE);
        Check.put(x, "name a 1;soul s 9;worth s a 7;debt a 3;feast a 2;wish s a;old s 0;");
        x.town();
        x.die(0, 1);
        Check.put(x, "name a 1;soul s 9;");
        x.town();
        Check.eq("no WORTH is left of the old one", x.worth(0, 0), 0);
        Check.eq("no debt", x.name(0, 2), 0);
        Check.eq("no feast", x.name(0, 6), NamesAgain.NONE);
        Check.eq("no hanged one", x.name(0, 5), 0);
        Check.eq("no wish", x.soul(0, 3), NamesAgain.NONE);
        Check.eq("it lives", x.now(1), 1);
        Check.eq("an empty TOWN", x.town(), 0);
        Check.eq("no NAMES in it", x.count(0), 0);
    }
}
