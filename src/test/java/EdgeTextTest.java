/** The edges of TOKENS, TOWNS, ROLLS, SENTENCES and FAULTS: a test for each of the document's sentences that names one. */
public final class EdgeTextTest {
    private static final int NONE = NamesAgain.NONE;
    private static final String NINE_NAMES = numbered("name", "n", 9);
    private static final String NINE_SOULS = numbered("soul", "s", 9);

    public static void main(String[] args) {
        Edges.run(EdgeTextTest.class);
    }

    /** LINES like 'name na 1;name nb 1;'. */
    private static String numbered(String what, String first, int size) {
        StringBuilder text = new StringBuilder();
        for (int i = 0; i < size; i++) {
            text.append(what).append(' ').append(first).append((char) ('a' + i)).append(" 1;");
        }
        return text.toString();
    }

    private static String blanks(int n) {
        return " ".repeat(n);
    }

    private static NamesAgain town(String text, int lines) {
        NamesAgain x = new NamesAgain();
        Check.put(x, text);
        Check.eq("LINES of '" + text + "'", x.town(), lines);
        Check.eq("no FAULT in '" + text + "'", x.fault(), 0);
        return x;
    }

    private static void rollGood(String text, int lines) {
        NamesAgain x = TextTest.two();
        Check.eq("no LINE is WRONG in '" + text + "'", Check.roll(x, text, 0), NONE);
        Check.eq("no FAULT in '" + text + "'", x.fault(), 0);
        Check.eq("LINES of '" + text + "'", x.rolled(1), lines);
    }

    private static void townFault(String text, int kind, int place) {
        Check.townFault(text, kind, place);
    }

    private static void rollFault(String text, int kind, int place) {
        TextTest.rollFault(text, kind, place);
    }

    private static void sentenceFault(String text, int kind, int place) {
        TextTest.sentenceFault(text, kind, place);
    }

    private static void sentenceGood(String text, int ones) {
        TextTest.sentenceGood(text, ones);
    }

    // TOKENS

    @Says("with blanks (32, 10) between them or not")
    private static void tokenBlanks() {
        Check.eq("none", town("name n 5;name m 6;", 2).name(1, 0), 6);
        Check.eq("many", town(" \n name \n n \n 5 \n ; \n\nname\nm\n6\n;\n", 2).name(1, 0), 6);
        sentenceGood("not(purse<5)and(waits)", 5);
        sentenceGood("\n not \n ( \n purse \n < \n 5 \n ) \n and \n ( \n waits \n ) \n", 5);
        rollGood("s flees;monday 1;", 2);
        rollGood("\n s \n flees \n ; \n monday \n 1 \n ; \n", 2);
    }

    @Says("with blanks (32, 10) between them or not")
    private static void tokenNoOtherBlank() {
        for (char c : new char[] {0, 9, 11, 12, 13, 31, 33, 127, 133, 160, 255}) {
            townFault("name" + c + "n 1;", 1, 4);
            townFault("name n 1;" + c, 1, 9);
            rollFault("s" + c + "dies;", 1, 1);
            sentenceFault("alive" + c + "or fled", 1, 5);
        }
    }

    @Says("what is not as told is no TOKEN")
    private static void tokenEveryByte() {
        for (char c = 0; c < 256; c++) {
            String text = "name n 1" + c + ";";
            if (c == ' ' || c == '\n') {
                Check.eq("a blank " + (int) c, town(text, 1).name(0, 0), 1);
            } else if (c >= '0' && c <= '9') {
                Check.eq("a digit " + c, town(text, 1).name(0, 0), 10 + c - '0');
            } else if (c >= 'a' && c <= 'z') {
                townFault(text, 1, 7);
            } else {
                townFault(text, 1, c == ';' ? 9 : 8);
            }
        }
    }

    @Says("WORDS: small letters, 1 to 7")
    private static void tokenWordSize() {
        for (int size = 1; size <= 7; size++) {
            String word = "zabcdez".substring(0, size);
            NamesAgain x = town("name " + word + " 3;soul y 4 called " + word + ";", 2);
            Check.eq("a NAME of " + size, x.soul(0, 0), 0);
            Check.eq("a SOUL of " + size, town("soul " + word + " 1;old " + word + " 1;", 2).count(1), 1);
        }
        for (int size = 8; size <= 20; size++) {
            String word = "abcdefghijklmnopqrst".substring(0, size);
            townFault("name " + word + " 1;", 1, 5);
            townFault("soul " + word + " 1;", 1, 5);
            townFault(word + " n 1;", 1, 0);
            rollFault(word + " dies;", 1, 0);
            rollFault("s takes " + word + ";", 1, 8);
            sentenceFault("called " + word, 1, 7);
        }
    }

    @Says("WORDS: small letters, 1 to 7")
    private static void tokenWordsUnlike() {
        NamesAgain x = town("name abcdefg 1;name abcdefh 2;name bbcdefg 3;name abcdef 4;name g 5;debt abcdefh 7;debt g 8;", 7);
        int[] owes = {0, 7, 0, 0, 8};
        for (int n = 0; n < owes.length; n++) {
            Check.eq("its own debt", x.name(n, 2), owes[n]);
        }
    }

    @Says("WORDS: small letters, 1 to 7")
    private static void tokenWordLetters() {
        for (char c : new char[] {'A', 'Z', '`', '{', '_', '-', '@', '[', 225}) {
            townFault("name " + c + " 1;", 1, 5);
            townFault("name a" + c + " 1;", 1, 6);
            townFault(c + "ame a 1;", 1, 0);
        }
    }

    @Says("NUMBERS: 1 to 3 digits")
    private static void tokenNumberSize() {
        Check.eq("one", town("name n 5;", 1).name(0, 0), 5);
        Check.eq("two", town("name n 05;", 1).name(0, 0), 5);
        Check.eq("three", town("name n 005;", 1).name(0, 0), 5);
        townFault("name n 0005;", 1, 7);
        townFault("name n 00000000000000000000;", 1, 7);
        townFault("name n 4294967297;", 1, 7);
        rollGood("monday 001;", 1);
        rollFault("monday 0001;", 1, 7);
        rollFault("s pays 0001;", 1, 7);
        sentenceGood("purse < 005", 1);
        sentenceFault("purse < 0005", 1, 8);
    }

    @Says("NUMBERS: 1 to 3 digits")
    private static void tokenNumberDigits() {
        Check.eq("0 and 9", town("soul s 909;", 1).soul(0, 1), 909);
        for (char c : new char[] {'/', ':', '+', '-', '.', ','}) {
            townFault("name n " + c + ";", 1, 7);
            townFault("name n 1" + c + ";", 1, 8);
        }
        townFault("name n ;", 1, 7);
    }

    @Says("; < = > ( ) .")
    private static void tokenSigns() {
        sentenceGood("((purse<5)or(owes=0))and(number>1)", 7);
        for (char c : "<=>().".toCharArray()) {
            townFault("name n 1" + c, 1, 8);
            townFault("" + c, 1, 0);
            rollFault("s dies" + c, 1, 6);
            rollFault(c + "s dies;", 1, 0);
        }
        for (char c : "<=>();.".toCharArray()) {
            sentenceFault("alive " + c, 1, 6);
        }
        for (char c : "<=>);.".toCharArray()) {
            sentenceFault(c + "alive", 1, 0);
        }
    }

    @Says("A WORD, NUMBER goes on as long as small letters and digits do")
    private static void tokenGoesOn() {
        townFault("name n1 1;", 1, 5);
        townFault("name 1n 1;", 1, 5);
        townFault("name n 1n;", 1, 7);
        townFault("name1 n 1;", 1, 0);
        townFault("namen 1;", 1, 0);
        townFault("name n 1 2;", 1, 9);
        townFault("name n 1;soul s 1called n;", 1, 16);
        townFault("name n 1;soul s 1 calledn;", 1, 18);
        rollFault("s dies1;", 1, 2);
        rollFault("s pays 1a;", 1, 7);
        rollFault("s1 dies;", 1, 0);
        rollFault("monday1;", 1, 0);
        sentenceFault("purse<5or alive", 1, 6);
        sentenceFault("alive1", 1, 0);
        sentenceFault("notalive", 1, 0);
    }

    // A TOWN

    @Says("A TOWN is a text of at most 900 bytes")
    private static void townBytes() {
        Check.eq("900 with blanks behind", town("name n 1;" + blanks(891), 1).count(0), 1);
        Check.eq("900 to the last byte", town(blanks(891) + "name n 1;", 1).count(0), 1);
        townFault("name n 1;" + blanks(892), 1, 900);
        townFault("name n 1;" + blanks(931), 1, 900);
        townFault(blanks(892) + "name n 1;", 1, 900);
    }

    @Says("{ LINE ; }")
    private static void townLines() {
        Check.eq("no LINE", town("", 0).count(0), 0);
        Check.eq("blanks alone", town(" \n ", 0).count(0), 0);
        StringBuilder text = new StringBuilder(NINE_NAMES);
        text.append(numbered("soul", "s", 5)).append(numbered("debt", "n", 9)).append(numbered("feast", "n", 9));
        int lines = 9 + 5 + 9 + 9;
        for (int i = 0; i < 40; i++) {
            text.append("worth s").append((char) ('a' + i / 9)).append(" n").append((char) ('a' + i % 9)).append(" 9;");
            lines++;
        }
        Check.eq("many LINES", town(text.toString(), lines).worth(4, 3), 9);
    }

    @Says("{ LINE ; }")
    private static void townSemicolons() {
        townFault("name n 1", 1, 8);
        townFault("name n 1 name m 1;", 1, 9);
        townFault(";", 1, 0);
        townFault(";name n 1;", 1, 0);
        townFault("name n 1;;", 1, 9);
        townFault("name n 1; ;name m 1;", 1, 10);
    }

    @Says("the end: how many bytes there are")
    private static void townCutAnywhere() {
        String text = "name n 1;soul s 1 called n;debt n 1;feast n 1;wish s n;worth s n 1;old s 1;";
        for (int cut = 0; cut < text.length(); cut++) {
            int start = startOfToken(text, cut);
            boolean isLinesEnd = cut == 0 || text.charAt(cut - 1) == ';';
            if (isLinesEnd) {
                Check.is("cut at " + cut, Check.town(text.substring(0, cut)).fault() == 0);
            } else {
                townFault(text.substring(0, cut), 1, start);
            }
        }
    }

    /** Where the TOKEN that a cut breaks begins; the cut, if it breaks none. */
    private static int startOfToken(String text, int cut) {
        int start = cut;
        if (cut < text.length() && Character.isLetter(text.charAt(cut))) {
            while (start > 0 && Character.isLetter(text.charAt(start - 1))) {
                start--;
            }
        }
        return start;
    }

    @Says("'name' WORD PRICE (0 to 99)")
    private static void townPrice() {
        Check.eq("0", town("name n 0;", 1).name(0, 0), 0);
        Check.eq("99", town("name n 99;", 1).name(0, 0), 99);
        townFault("name n 100;", 2, 7);
        townFault("name n 999;", 2, 7);
    }

    @Says("'debt' NAME N (0 to 99; each once)")
    private static void townDebt() {
        Check.eq("none told", town("name n 1;", 1).name(0, 2), 0);
        Check.eq("0", town("name n 1;debt n 0;", 2).name(0, 2), 0);
        Check.eq("99", town("name n 1;debt n 99;", 2).name(0, 2), 99);
        townFault("name n 1;debt n 100;", 2, 16);
        townFault("name n 1;debt n 999;", 2, 16);
    }

    @Says("'debt' NAME N (0 to 99; each once)")
    private static void townDebtOnce() {
        townFault("name n 1;debt n 0;debt n 0;", 3, 23);
        townFault("name n 1;debt n 5;debt n 100;", 3, 23);
        townFault("name n 1;name m 1;debt n 5;debt m 6;debt m 7;", 3, 41);
        Check.eq("each its own", town("name n 1;name m 1;debt m 5;debt n 6;", 4).now(5), 11);
    }

    @Says("'feast' NAME EVERY (1 to 9; each once)")
    private static void townFeast() {
        Check.eq("1", town("name n 1;feast n 1;", 2).name(0, 6), 1);
        Check.eq("9", town("name n 1;feast n 9;", 2).name(0, 6), 9);
        townFault("name n 1;feast n 0;", 2, 17);
        townFault("name n 1;feast n 10;", 2, 17);
        townFault("name n 1;feast n 999;", 2, 17);
    }

    @Says("'feast' NAME EVERY (1 to 9; each once)")
    private static void townFeastOnce() {
        townFault("name n 1;feast n 1;feast n 9;", 3, 25);
        townFault("name n 1;feast n 1;feast n 0;", 3, 25);
        Check.eq("each its own", town("name n 1;name m 1;feast n 2;feast m 2;", 4).name(1, 6), 2);
    }

    @Says("'soul' WORD PURSE [ 'called' NAME ] (0 to 999;")
    private static void townPurse() {
        Check.eq("0", town("soul s 0;", 1).soul(0, 1), 0);
        Check.eq("999", town("soul s 999;", 1).soul(0, 1), 999);
        Check.eq("called", town("name n 1;soul s 999 called n;", 2).soul(0, 0), 0);
        townFault("soul s 1000;", 1, 7);
        townFault("soul s called n;", 1, 7);
    }

    @Says("a NAME that nobody is called so far;")
    private static void townCalledTwice() {
        townFault("name n 1;soul s 1 called n;soul t 1 called n;", 3, 43);
        townFault("name n 1;name m 1;soul s 1 called m;soul t 1;soul u 1 called m;", 3, 61);
        townFault("soul s 1 called n;name n 1;", 3, 16);
        NamesAgain x = town("name n 1;name m 1;soul s 1 called m;soul t 1 called n;", 4);
        Check.eq("s", x.soul(0, 0), 1);
        Check.eq("t", x.soul(1, 0), 0);
    }

    @Says("who is not called so waits, behind all who wait)")
    private static void townWaits() {
        NamesAgain x = town("name n 1;soul s 1;soul t 1 called n;soul u 1;soul v 1;", 5);
        int[] ahead = {0, NONE, 1, 2};
        for (int s = 0; s < 4; s++) {
            Check.eq("ahead of " + s, x.soul(s, 4), ahead[s]);
        }
        NamesAgain all = town(NINE_SOULS, 9);
        for (int s = 0; s < 9; s++) {
            Check.eq("all nine wait", all.queue(s), s);
        }
        Check.eq("nobody waits", town("name n 1;soul s 1 called n;", 2).now(3), 0);
    }

    @Says("'wish' SOUL NAME (each SOUL once)")
    private static void townWishOnce() {
        townFault("name n 1;name m 1;soul s 1;wish s n;wish s m;", 3, 41);
        townFault("name n 1;name m 1;soul s 1;wish s n;wish s x;", 3, 41);
        NamesAgain x = town("name n 1;soul s 1;soul t 1;wish t n;wish s n;", 5);
        Check.eq("two may wish one", x.soul(0, 3) + x.soul(1, 3), 0);
        Check.eq("none told", town("name n 1;soul s 1;", 2).soul(0, 3), NONE);
    }

    @Says("'worth' SOUL NAME N (1 to 99; each two once)")
    private static void townWorth() {
        String two = "name n 1;soul s 1;";
        Check.eq("1", town(two + "worth s n 1;", 3).worth(0, 0), 1);
        Check.eq("99", town(two + "worth s n 99;", 3).worth(0, 0), 99);
        townFault(two + "worth s n 0;", 2, 28);
        townFault(two + "worth s n 100;", 2, 28);
        townFault(two + "worth s n 999;", 2, 28);
    }

    @Says("'worth' SOUL NAME N (1 to 99; each two once)")
    private static void townWorthOnce() {
        String four = "name n 1;name m 1;soul s 1;soul t 1;";
        townFault(four + "worth s n 1;worth s n 2;", 3, 56);
        townFault(four + "worth s m 1;worth t n 1;worth s m 0;", 3, 68);
        NamesAgain x = town(four + "worth s n 1;worth s m 2;worth t n 3;worth t m 4;", 8);
        for (int i = 0; i < 4; i++) {
            Check.eq("each two", x.worth(i / 2, i % 2), i + 1);
        }
        NamesAgain all = town(NINE_NAMES + NINE_SOULS + "worth si ni 99;worth sa ni 7;worth si na 8;", 21);
        Check.eq("the last two", all.worth(8, 8), 99);
        Check.eq("first and last", all.worth(0, 8), 7);
        Check.eq("last and first", all.worth(8, 0), 8);
    }

    @Says("'old' SOUL MONDAY (0 to 199:")
    private static void townOld() {
        String two = "name n 1;soul s 1 called n;";
        Check.eq("0", town(two + "old s 0;", 3).must(0), 1);
        Check.eq("199", town(two + "old s 199;", 3).must(199), 1);
        Check.eq("199, not 198", town(two + "old s 199;", 3).must(198), 0);
        townFault(two + "old s 200;", 2, 33);
        townFault(two + "old s 999;", 2, 33);
    }

    @Says("as all know; each SOUL once)")
    private static void townOldOnce() {
        townFault("soul s 1;old s 0;old s 0;", 3, 21);
        townFault("soul s 1;old s 5;old s 200;", 3, 21);
        Check.eq("each SOUL", town("soul s 1;soul t 1;old t 5;old s 5;", 4).count(1), 2);
    }

    @Says("it is dead by then, at the latest, as all know")
    private static void townOldKillsNobody() {
        NamesAgain x = town("name n 1;soul s 1 called n;old s 0;", 3);
        x.mondays(2);
        Check.eq("no act but a death makes it dead", x.soul(0, 2), 1);
    }

    @Says("A WORD told for a NAME, a SOUL is none of those told here, in a ROLL or a SENTENCE")
    private static void townOwnWords() {
        Check.eq("as many as there are", TextTest.OWN_WORDS.length, 27);
        for (String own : TextTest.OWN_WORDS) {
            townFault("name " + own + " 1;", 1, 5);
            townFault("soul " + own + " 1;", 1, 5);
            Check.eq("longer than " + own, town("name " + (own + "xx").substring(0, own.length() < 7 ? own.length() + 1 : 6) + " 1;", 1).count(0), 1);
        }
    }

    @Says("told once.")
    private static void townWordOnce() {
        townFault("name n 1;name n 1;", 3, 14);
        townFault("soul n 1;soul n 1;", 3, 14);
        townFault("name n 1;soul n 1;", 3, 14);
        townFault("soul n 1;name n 1;", 3, 14);
        townFault(numbered("name", "n", 8) + "name na 1;", 3, 85);
    }

    @Says("9 NAMES, 9 SOULS at most, numbered from 0 each.")
    private static void townNine() {
        NamesAgain x = town(NINE_NAMES + NINE_SOULS, 18);
        Check.eq("nine NAMES", x.count(0), 9);
        Check.eq("nine SOULS", x.count(1), 9);
        townFault(NINE_NAMES + "name nj 1;", 4, 90);
        townFault(NINE_SOULS + "soul sj 1;", 4, 90);
        townFault(NINE_NAMES + NINE_SOULS + "soul sj 1;", 4, 180);
        townFault(NINE_SOULS + NINE_NAMES + "name nj 1;", 4, 180);
    }

    @Says("9 NAMES, 9 SOULS at most, numbered from 0 each.")
    private static void townNumbered() {
        NamesAgain x = town("soul s 3;name n 4;soul t 5;name m 6;", 4);
        Check.eq("NAME 0", x.name(0, 0), 4);
        Check.eq("NAME 1", x.name(1, 0), 6);
        Check.eq("SOUL 0", x.soul(0, 1), 3);
        Check.eq("SOUL 1", x.soul(1, 1), 5);
    }

    // A ROLL

    @Says("A ROLL is a text of at most 400 bytes")
    private static void rollBytes() {
        rollGood("s flees;" + blanks(392), 1);
        rollGood(blanks(392) + "s flees;", 1);
        rollFault("s flees;" + blanks(393), 1, 400);
        rollFault("s flees;" + blanks(932), 1, 400);
        rollFault(blanks(393) + "s flees;", 1, 400);
    }

    @Says("{ LINE ; }, 40 at most")
    private static void rollLines() {
        rollGood("", 0);
        rollGood(" \n", 0);
        rollGood("monday 1;".repeat(40), 40);
        rollFault("monday 1;".repeat(41), 4, 360);
        rollFault("monday 1;".repeat(42), 4, 360);
        rollFault("s dies", 1, 6);
        rollFault(";", 1, 0);
        rollFault("s dies;;", 1, 7);
        rollFault("s dies t dies;", 1, 7);
    }

    @Says("'pays' N (1 to 99)")
    private static void rollPays() {
        NamesAgain x = Check.town("name n 1;debt n 99;soul s 99 called n;");
        Check.eq("1", Check.roll(x, "s pays 1;", 0), NONE);
        Check.eq("99", Check.roll(x, "s pays 99;", 0), NONE);
        rollFault("s pays 0;", 2, 7);
        rollFault("s pays 100;", 2, 7);
        rollFault("s pays 999;", 2, 7);
        rollFault("s pays;", 1, 6);
    }

    @Says("'monday' N (1 to 60)")
    private static void rollMonday() {
        rollGood("monday 1;", 1);
        rollGood("monday 60;", 1);
        rollFault("monday 0;", 2, 7);
        rollFault("monday 61;", 2, 7);
        rollFault("monday 999;", 2, 7);
        rollFault("monday;", 1, 6);
    }

    @Says("SOUL ( 'takes' NAME | 'swaps' SOUL | 'sells' SOUL | 'dies' | 'hangs' | 'flees' | 'pays' N (1 to 99) )")
    private static void rollCutAnywhere() {
        String text = "s takes n;t swaps s;t sells s;s dies;s hangs;s flees;s pays 1;monday 1;";
        for (int cut = 1; cut < text.length(); cut++) {
            int start = startOfToken(text, cut);
            boolean isPartOfMonday = start < cut && text.startsWith("monday", start);
            if (text.charAt(cut - 1) != ';') {
                rollFault(text.substring(0, cut), isPartOfMonday ? 3 : 1, start);
            }
        }
    }

    @Says("SOUL ( 'takes' NAME | 'swaps' SOUL | 'sells' SOUL | 'dies' | 'hangs' | 'flees' | 'pays' N (1 to 99) )")
    private static void rollSorts() {
        for (String deed : new String[] {"takes", "swaps", "sells", "pays"}) {
            rollFault("s " + deed + ";", 1, 3 + deed.length() - 1);
        }
        for (String deed : new String[] {"dies", "hangs", "flees"}) {
            rollFault("s " + deed + " t;", 1, 3 + deed.length());
        }
        rollFault("s takes 1;", 1, 8);
        rollFault("s swaps 1;", 1, 8);
        rollFault("s sells 1;", 1, 8);
        rollFault("s called n;", 1, 2);
        rollFault("s t;", 1, 2);
        rollFault("s monday 1;", 1, 2);
        rollFault("monday s;", 1, 7);
        rollFault("dies s;", 1, 0);
    }

    // A SENTENCE

    private static void saidOf(NamesAgain x, String text, int... souls) {
        Check.is("no FAULT in '" + text + "'", Check.sentence(x, text) > 0);
        int bits = 0;
        for (int k = 0; k < x.said(NONE); k++) {
            bits |= 1 << x.said(k);
        }
        int due = 0;
        for (int s : souls) {
            due |= 1 << s;
        }
        Check.eq("of whom may be said '" + text + "'", bits, due);
    }

    private static NamesAgain four() {
        return Check.town("name a 1;name b 1;soul p 10 called a;soul q 11 called b;soul r 12;soul s 13;");
    }

    @Says("A SENTENCE is a text of at most 200 bytes")
    private static void sentenceBytes() {
        sentenceGood("alive" + blanks(195), 1);
        sentenceGood(blanks(195) + "alive", 1);
        sentenceFault("alive" + blanks(196), 1, 200);
        sentenceFault("alive" + blanks(935), 1, 200);
        sentenceFault(blanks(196) + "alive", 1, 200);
    }

    @Says("COND: ALL { 'or' ALL }. ALL: ONE { 'and' ONE }.")
    private static void sentenceOrAnd() {
        NamesAgain x = four();
        saidOf(x, "number = 0 or number = 1 and number = 2", 0);
        saidOf(x, "number = 0 and number = 1 or number = 2", 2);
        saidOf(x, "number = 0 or number = 1 or number = 3", 0, 1, 3);
        saidOf(x, "number < 3 and number > 0 and purse > 11", 2);
        sentenceFault("", 1, 0);
        sentenceFault(" \n ", 1, 3);
        sentenceFault("alive or", 1, 8);
        sentenceFault("alive and", 1, 9);
        sentenceFault("alive or and fled", 1, 9);
        sentenceFault("or alive", 1, 0);
        sentenceFault("and alive", 1, 0);
        sentenceFault("alive fled", 1, 6);
        sentenceFault("alive not fled", 1, 6);
    }

    @Says("ONE: 'not' ONE | ( COND )")
    private static void sentenceNotAndBrackets() {
        NamesAgain x = four();
        saidOf(x, "not number = 0 and number < 2", 1);
        saidOf(x, "not number = 0 or number = 0", 0, 1, 2, 3);
        saidOf(x, "not (number = 0 or number = 1)", 2, 3);
        saidOf(x, "(number = 0 or number = 1) and number = 2");
        saidOf(x, "not not number = 3", 3);
        sentenceFault("not", 1, 3);
        sentenceFault("not or fled", 1, 4);
        sentenceFault("()", 1, 1);
        sentenceFault("(alive", 1, 6);
        sentenceFault("(alive))", 1, 7);
        sentenceFault("(alive;", 1, 6);
    }

    @Says("'alive' | 'waits'")
    private static void sentenceAliveWaits() {
        NamesAgain x = four();
        saidOf(x, "alive", 0, 1, 2, 3);
        saidOf(x, "waits", 2, 3);
        x.die(2, 0);
        x.flee(0);
        saidOf(x, "alive", 0, 1, 3);
        saidOf(x, "waits", 0, 3);
        saidOf(x, "not waits", 1, 2);
        sentenceFault("alive n", 1, 6);
        sentenceFault("waits = 1", 1, 6);
    }

    @Says("'called' NAME")
    private static void sentenceCalled() {
        NamesAgain x = four();
        saidOf(x, "called a", 0);
        saidOf(x, "not called b", 0, 2, 3);
        x.die(0, 0);
        saidOf(x, "called a");
        sentenceFault("called", 1, 6);
        sentenceFault("called s", 3, 7);
        sentenceFault("called x", 3, 7);
        sentenceFault("called 1", 1, 7);
        sentenceFault("called (", 1, 7);
    }

    @Says("'fled' (at some time)")
    private static void sentenceFled() {
        NamesAgain x = four();
        saidOf(x, "fled");
        x.flee(1);
        saidOf(x, "fled", 1);
        x.lot(1, 1);
        x.mondays(60);
        x.flee(0);
        x.die(0, 0);
        saidOf(x, "fled", 0, 1);
    }

    @Says("'glad' (is called as it wishes)")
    private static void sentenceGlad() {
        NamesAgain x = Check.town("name a 1;name b 1;soul p 1 called a;soul q 1 called b;soul r 1;soul s 1;wish p a;wish q a;wish s b;");
        saidOf(x, "glad", 0);
        x.swap(0, 1);
        saidOf(x, "glad", 1);
        x.die(1, 0);
        saidOf(x, "glad");
    }

    @Says("( 'purse' | 'owes' | 'feasts' | 'number' ) SIGN NUMBER (what its NAME owes; how often a feast fell on it; its number)")
    private static void sentenceMeasures() {
        NamesAgain x = Check.town("name a 1;name b 1;debt a 99;debt b 1;feast b 1;soul p 999 called a;soul q 0 called b;soul r 5;");
        saidOf(x, "purse = 999", 0);
        saidOf(x, "purse < 6", 1, 2);
        saidOf(x, "owes = 99", 0);
        saidOf(x, "owes > 0", 0, 1);
        saidOf(x, "owes < 1", 2);
        saidOf(x, "owes = 0", 2);
        saidOf(x, "feasts > 0");
        x.mondays(60);
        saidOf(x, "feasts = 60", 1);
        saidOf(x, "feasts = 0", 0, 2);
        saidOf(x, "number = 2", 2);
        saidOf(x, "number > 2");
        x.swap(0, 1);
        saidOf(x, "owes = 99", 1);
        saidOf(x, "feasts = 60", 1);
    }

    @Says("SIGN: < = >.")
    private static void sentenceSigns() {
        NamesAgain x = Check.town("soul p 0;soul q 998;soul r 999;");
        saidOf(x, "purse < 0");
        saidOf(x, "purse = 0", 0);
        saidOf(x, "purse > 0", 1, 2);
        saidOf(x, "purse < 999", 0, 1);
        saidOf(x, "purse = 999", 2);
        saidOf(x, "purse > 999");
        saidOf(x, "purse > 998", 2);
        for (String measure : new String[] {"purse", "owes", "feasts", "number"}) {
            int size = measure.length();
            sentenceFault(measure, 1, size);
            sentenceFault(measure + " 5", 1, size + 1);
            sentenceFault(measure + " <", 1, size + 2);
            sentenceFault(measure + " < n", 1, size + 3);
            sentenceFault(measure + " <= 5", 1, size + 2);
            sentenceFault(measure + " (", 1, size + 1);
            sentenceFault(measure + " < 1000", 1, size + 3);
            sentenceGood(measure + " < 999", 1);
        }
    }

    @Says("20 ONES, 8 within one another.")
    private static void sentenceOnes() {
        sentenceGood("alive" + " or fled".repeat(19), 20);
        sentenceFault("alive" + " or fled".repeat(20), 4, 161);
        sentenceGood("alive" + " and fled".repeat(19), 20);
        sentenceFault("alive" + " and fled".repeat(20), 4, 181);
        sentenceGood("(alive)" + " or not fled".repeat(9), 20);
        sentenceFault("(alive)" + " or not fled".repeat(9) + " or fled", 4, 119);
        sentenceFault("alive or (alive)" + " or not fled".repeat(9), 4, 120);
    }

    @Says("20 ONES, 8 within one another.")
    private static void sentenceWithin() {
        sentenceGood("not ".repeat(7) + "alive", 8);
        sentenceFault("not ".repeat(8) + "alive", 4, 32);
        sentenceGood("(".repeat(7) + "alive" + ")".repeat(7), 8);
        sentenceFault("(".repeat(8) + "alive" + ")".repeat(8), 4, 8);
        sentenceGood("(".repeat(7) + "alive or fled and glad" + ")".repeat(7), 10);
        sentenceFault("(not ".repeat(4) + "not alive", 4, 20);
        sentenceGood("(".repeat(7) + "alive" + ")".repeat(7) + " or " + "not ".repeat(7) + "fled", 16);
        NamesAgain x = four();
        saidOf(x, "not ".repeat(7) + "number = 1", 0, 2, 3);
        saidOf(x, "not (".repeat(3) + "not number = 1" + ")".repeat(3), 1);
    }

    @Says("It is said of SOULS.")
    private static void sentenceOfSouls() {
        NamesAgain x = four();
        x.die(3, 0);
        saidOf(x, "not alive", 3);
        saidOf(x, "purse = 13", 3);
        saidOf(x, "alive", 0, 1, 2);
        saidOf(x, "waits", 2);
        NamesAgain nine = Check.town(NINE_SOULS);
        Check.sentence(nine, "alive");
        Check.eq("all nine", nine.said(NONE), 9);
        Check.eq("the last", nine.said(8), 8);
        NamesAgain none = new NamesAgain();
        Check.eq("without SOULS", Check.sentence(none, "alive"), 1);
        Check.eq("it may be said of none", none.said(NONE), 0);
    }

    // FAULTS

    @Says("FAULTS, the first along the text")
    private static void faultFirst() {
        townFault("name n 100;name n 1;", 2, 7);
        townFault("debt x 100;", 3, 5);
        townFault("name n 1;name n 100;", 3, 14);
        townFault("name n 1;soul s 1;wish n s;", 3, 23);
        townFault(NINE_NAMES + "name soul 100", 4, 90);
        rollFault("x takes 1;", 3, 0);
        rollFault("s pays 0", 2, 7);
        rollFault("monday 1;".repeat(40) + "monday 0;", 4, 360);
        sentenceFault("called x or 5", 3, 7);
        sentenceFault("not ".repeat(8) + "alive or 5", 4, 32);
    }

    @Says("of one TOKEN the least")
    private static void faultLeast() {
        rollFault("monday 1;".repeat(40) + "x dies;", 3, 360);
        rollFault("monday 1;".repeat(40) + "n dies;", 3, 360);
        rollFault("monday 1;".repeat(40) + "dies;", 1, 360);
        rollFault("monday 1;".repeat(40) + ";", 1, 360);
        rollFault("monday 1;".repeat(40) + "S dies;", 1, 360);
        rollFault("monday 1;".repeat(40) + "s xxx;", 4, 360);
        sentenceFault("alive" + " or fled".repeat(19) + " or x", 1, 161);
        sentenceFault("alive" + " or fled".repeat(19) + " or ", 1, 161);
        sentenceFault("not ".repeat(8) + "x", 1, 32);
        sentenceFault("not ".repeat(8), 1, 32);
        sentenceFault("(".repeat(8) + ")", 1, 8);
        townFault("name soul 1;soul s 1;", 1, 5);
        townFault(NINE_NAMES + "names nj 1;", 1, 90);
    }

    @Says("of one TOKEN the least")
    private static void faultLeastOfOwnWords() {
        String two = "name n 1;soul s 1;";
        for (String own : TextTest.OWN_WORDS) {
            townFault(two + "debt " + own + " 1;", 1, 23);
            townFault(two + "feast " + own + " 1;", 1, 24);
            townFault(two + "soul t 1 called " + own + ";", 1, 34);
            townFault(two + "wish " + own + " n;", 1, 23);
            townFault(two + "wish s " + own + ";", 1, 25);
            townFault(two + "worth " + own + " n 1;", 1, 24);
            townFault(two + "worth s " + own + " 1;", 1, 26);
            townFault(two + "old " + own + " 1;", 1, 22);
            rollFault("s takes " + own + ";", 1, 8);
            rollFault("s swaps " + own + ";", 1, 8);
            rollFault("s sells " + own + ";", 1, 8);
            sentenceFault("called " + own, 1, 7);
            if (!own.equals("monday")) {
                rollFault(own + " dies;", 1, 0);
            }
        }
    }

    @Says("1 no TOKEN, or one that can't come (at it;")
    private static void faultCantCome() {
        townFault("  Name n 1;", 1, 2);
        townFault("name n n;", 1, 7);
        townFault("name 1 n;", 1, 5);
        townFault("name ; 1;", 1, 5);
        townFault("called n;", 1, 0);
        townFault("soul s 1 wish;", 1, 9);
        townFault("n 1;", 1, 0);
        townFault("1;", 1, 0);
        townFault("takes 1;", 1, 0);
    }

    @Says("the end: how many bytes there are;")
    private static void faultAtTheEnd() {
        townFault("name", 1, 4);
        townFault("name \n ", 1, 7);
        townFault("name n 1  ", 1, 10);
        townFault("name n 1" + blanks(892), 1, 900);
        rollFault("s", 1, 1);
        rollFault("s  ", 1, 3);
        rollFault("s dies" + blanks(394), 1, 400);
        sentenceFault("not  ", 1, 5);
        sentenceFault("", 1, 0);
        sentenceFault("alive or" + blanks(192), 1, 200);
    }

    @Says("the most bytes told, if there are more and no FAULT is ahead")
    private static void faultAtTheMost() {
        townFault("name n 1" + blanks(893), 1, 900);
        townFault(blanks(940), 1, 900);
        townFault("name n 100;" + blanks(920), 2, 7);
        townFault("name n 1;" + blanks(891) + "name n 1;", 1, 900);
        townFault("name n 1;" + blanks(891) + "#", 1, 900);
        townFault("name n 1;name" + blanks(888) + "m 1;", 1, 900);
        townFault(NINE_NAMES + blanks(810) + "name nj 1;", 1, 900);
        townFault(NINE_NAMES + blanks(809) + "name nj 1;", 4, 899);
        rollFault(blanks(401), 1, 400);
        rollFault("s dies;" + blanks(393) + "x dies;", 1, 400);
        rollFault("s dies" + blanks(394) + ";", 1, 400);
        rollFault("monday 1;".repeat(40) + blanks(40) + "monday 1;", 1, 400);
        rollFault("monday 1;".repeat(40) + blanks(39) + "monday 1;", 4, 399);
        sentenceFault(blanks(201), 1, 200);
        sentenceFault("alive" + blanks(195) + "x", 1, 200);
        sentenceFault("alive or" + blanks(192) + "fled", 1, 200);
        sentenceFault("called x" + blanks(200), 3, 7);
    }

    @Says("the most bytes told, if there are more and no FAULT is ahead")
    private static void faultBehindTheLastSign() {
        sentenceFault(blanks(199) + "(alive)", 1, 200);
        sentenceFault(blanks(193) + "purse <<5", 1, 200);
        sentenceFault("((alive" + blanks(192) + "))", 1, 200);
        sentenceFault(blanks(193) + "(alive) or fled", 1, 200);
        townFault("name n 1" + blanks(891) + ";;", 1, 900);
        townFault("name n 1" + blanks(891) + "; ", 1, 900);
        rollFault("s dies" + blanks(393) + ";;", 1, 400);
    }

    @Says("TOKENS that begin ahead of it are read whole)")
    private static void faultReadWhole() {
        String name = "name n 1;";
        townFault(name + blanks(890) + "debtxxxx", 1, 899);
        townFault(name + blanks(890) + "debts", 1, 899);
        townFault(name + blanks(890) + "debt", 1, 900);
        townFault(name + "debt n" + blanks(884) + "1000;", 1, 899);
        townFault(name + "debt n" + blanks(884) + "100;", 2, 899);
        townFault(name + "debt n" + blanks(884) + "99;", 1, 900);
        townFault(name + "debt" + blanks(886) + "nn 1;", 3, 899);
        townFault(name + "debt" + blanks(886) + "n 1;", 1, 900);
        rollFault(blanks(399) + "tt dies;", 3, 399);
        rollFault(blanks(399) + "t dies;", 1, 400);
        rollFault("monday" + blanks(393) + "61;", 2, 399);
        rollFault("monday" + blanks(393) + "60;", 1, 400);
        sentenceFault(blanks(199) + "alivex", 1, 199);
        sentenceFault(blanks(199) + "alive", 1, 200);
        sentenceFault("called" + blanks(193) + "nn", 3, 199);
        sentenceFault("called" + blanks(193) + "n or", 1, 200);
        sentenceFault("purse <" + blanks(192) + "1000", 1, 199);
        sentenceFault("purse <" + blanks(192) + "100", 1, 200);
    }

    @Says("2 a NUMBER that is not as told (at it);")
    private static void faultNumber() {
        townFault("\n name n  100 ;", 2, 10);
        townFault("name n 1;\nsoul s 1;\nworth s n 0;", 2, 30);
        townFault("name n 1;feast n 000;", 2, 17);
        townFault("soul s 1;old s 200", 2, 15);
        rollFault("s dies;  t  pays  0;", 2, 18);
        rollFault("monday 000", 2, 7);
    }

    @Says("3 a WORD told twice, not told, or of another sort")
    private static void faultWord() {
        townFault("name n 1; name  n 1;", 3, 16);
        townFault("debt n 1;", 3, 5);
        townFault("feast n 1;", 3, 6);
        townFault("soul s 1 called n;", 3, 16);
        townFault("wish s n;", 3, 5);
        townFault("soul s 1;wish s n;", 3, 16);
        townFault("worth s n 1;", 3, 6);
        townFault("soul s 1;worth s n 1;", 3, 17);
        townFault("old s 1;", 3, 4);
        townFault("soul s 1;debt s 1;", 3, 14);
        townFault("soul s 1;feast s 1;", 3, 15);
        townFault("soul s 1;soul t 1 called s;", 3, 25);
        townFault("soul s 1 called s;", 3, 16);
        townFault("name n 1;wish n n;", 3, 14);
        townFault("soul s 1;wish s s;", 3, 16);
        townFault("name n 1;worth n n 1;", 3, 15);
        townFault("soul s 1;worth s s 1;", 3, 17);
        townFault("name n 1;old n 1;", 3, 13);
        rollFault("x dies;", 3, 0);
        rollFault("n dies;", 3, 0);
        rollFault("s takes x;", 3, 8);
        rollFault("s takes t;", 3, 8);
        rollFault("s swaps x;", 3, 8);
        rollFault("s swaps n;", 3, 8);
        rollFault("s sells x;", 3, 8);
        rollFault("s sells n;", 3, 8);
        sentenceFault("called x", 3, 7);
        sentenceFault("called s", 3, 7);
    }

    @Says("what is told once told again (at it, at the second of two)")
    private static void faultAgain() {
        townFault("name n 1;debt n 1;debt  n 1;", 3, 24);
        townFault("name n 1;feast n 1;feast  n 1;", 3, 26);
        townFault("name n 1;soul s 1;wish s n;wish  s n;", 3, 33);
        townFault("soul s 1;old s 1;old  s 1;", 3, 22);
        townFault("name n 1;soul s 1;worth s n 1;worth s  n 1;", 3, 39);
    }

    @Says("a NAME that somebody is called (at it)")
    private static void faultIsCalled() {
        townFault("name n 1;soul s 1 called n;soul t 1 called  n;", 3, 44);
        townFault("name n 1;soul s 1 called n;soul t 1 called n", 3, 43);
    }

    @Says("4 one more NAME, SOUL than there may be, a 41st LINE of a ROLL (at the LINE's first WORD)")
    private static void faultOneMore() {
        townFault(NINE_NAMES + "\n name nj 1;", 4, 92);
        townFault(NINE_NAMES + "name", 4, 90);
        townFault(NINE_NAMES + "name na 1;", 4, 90);
        townFault(NINE_SOULS + "\n soul sj 1;", 4, 92);
        townFault(NINE_SOULS + "soul 5;", 4, 90);
        rollFault("monday 1;".repeat(40) + " monday 1;", 4, 361);
        rollFault("monday 1;".repeat(40) + "\ns dies;", 4, 361);
        rollFault("monday 1;".repeat(40) + "s", 4, 360);
    }

    @Says("a 21st ONE, a ninth within (at its first TOKEN).")
    private static void faultOneTooMany() {
        String twenty = "fled" + " or fled".repeat(19);
        for (String one : new String[] {"alive", "waits", "called n", "called x", "fled", "glad", "purse < 1", "purse", "not fled", "(fled)", "("}) {
            sentenceFault(twenty + " or " + one, 4, 160);
            sentenceFault("not ".repeat(8) + one, 4, 32);
        }
    }
}
