import java.util.ArrayList;
import java.util.List;
import java.util.NoSuchElementException;
import java.util.Random;

/** Long random runs of calls, each answer of the class compared with the model's. The seeds are fixed. */
public final class ModelTest {
    private static final int RUNS = 3000;
    private static final int CALLS = 500;
    private static final String[] KEYS = ("name debt feast soul called wish worth old takes swaps sells dies hangs flees pays monday or and "
        + "not alive waits fled glad purse owes feasts number ; < = > ( ) . Q abcdefgh 1234 a1 0 5 99 100 200 999").split(" ");

    private final Random random;
    private final NamesAgain x = new NamesAgain();
    private final Model model = new Model();
    private final StringBuilder told = new StringBuilder();
    private int names = 0;
    private int souls = 0;
    private boolean isRight = true;

    private ModelTest(long seed) {
        random = new Random(seed);
    }

    public static void main(String[] args) {
        int runs = args.length > 0 ? Integer.parseInt(args[0]) : RUNS;
        long from = args.length > 1 ? Long.parseLong(args[1]) : 0;
        int wrong = 0;
        for (long seed = from; seed < from + runs; seed++) {
            ModelTest run = new ModelTest(seed);
            run.play();
            Check.is("run " + seed, run.isRight);
            if (!run.isRight && ++wrong <= 3) {
                System.out.println(run.told);
            }
        }
        Check.close();
    }

    private void play() {
        try {
            for (int i = 0; i < CALLS && isRight; i++) {
                step();
            }
        } catch (RuntimeException e) {
            told.append(" threw ").append(e);
            isRight = false;
        }
    }

    private int below(int n) {
        return random.nextInt(n);
    }

    private boolean oneOf(int n) {
        return below(n) == 0;
    }

    /** A number of a NAME or SOUL, at times none. */
    private int some(int size) {
        return oneOf(25) ? new int[] {-1, size, 100, Integer.MIN_VALUE, Integer.MAX_VALUE}[below(5)] : below(Math.max(1, size));
    }

    private int number(int most) {
        return oneOf(15) ? new int[] {-1, 0, most + 1, Integer.MIN_VALUE, Integer.MAX_VALUE}[below(5)] : 1 + below(most);
    }

    private void due(String call, long got, long want) {
        told.append(call).append(" = ").append(got).append('\n');
        if (got != want) {
            told.append("  the model: ").append(want).append('\n');
            isRight = false;
        }
    }

    private void put(String text) {
        told.append("tape: '").append(text).append("'\n");
        byte[] bytes = text.getBytes(java.nio.charset.StandardCharsets.ISO_8859_1);
        int had = x.count(2);
        for (int i = 0; i < bytes.length; i += 20) {
            int[] five = new int[5];
            for (int j = 0; j < 20; j++) {
                five[j / 4] = five[j / 4] << 8 | (i + j < bytes.length ? bytes[i + j] & 255 : 0);
            }
            due("feed", x.feed(five[0], five[1], five[2], five[3], five[4]), model.feed(five[0], five[1], five[2], five[3], five[4]));
        }
        int end = had + bytes.length;
        due("end", x.end(end) ? 1 : 0, model.end(end) ? 1 : 0);
    }

    private String nameWord() {
        return names == 0 ? "na" : "n" + (char) ('a' + below(names));
    }

    private String soulWord() {
        return souls == 0 ? "sa" : "s" + (char) ('a' + below(souls));
    }

    private String blank() {
        return oneOf(12) ? "\n" : oneOf(12) ? "  " : " ";
    }

    private String townText() {
        List<String> lines = new ArrayList<>();
        names = oneOf(8) ? below(11) : 1 + below(9);
        souls = oneOf(8) ? below(11) : 1 + below(9);
        List<Integer> free = new ArrayList<>();
        for (int n = 0; n < names; n++) {
            lines.add("name n" + (char) ('a' + n) + " " + below(oneOf(2) ? 6 : 40));
            free.add(n);
        }
        for (int s = 0; s < souls; s++) {
            String line = "soul s" + (char) ('a' + s) + " " + below(oneOf(2) ? 8 : 200);
            boolean isCalled = !free.isEmpty() && !oneOf(3);
            lines.add(isCalled ? line + " called n" + (char) ('a' + free.remove(below(free.size()))) : line);
        }
        for (int n = 0; n < names; n++) {
            if (oneOf(3)) {
                lines.add("debt n" + (char) ('a' + n) + " " + below(20));
            }
            if (oneOf(3)) {
                lines.add("feast n" + (char) ('a' + n) + " " + (1 + below(9)));
            }
        }
        int wishing = 1 + below(5);
        List<Integer> wished = new ArrayList<>();
        for (int n = 0; n < names; n++) {
            wished.add(n);
        }
        for (int s = 0; s < souls; s++) {
            String soul = "s" + (char) ('a' + s);
            if (!wished.isEmpty() && oneOf(wishing)) {
                lines.add("wish " + soul + " n" + (char) ('a' + (oneOf(9) ? below(names) : wished.remove(below(wished.size())))));
            }
            if (oneOf(4)) {
                lines.add("old " + soul + " " + below(oneOf(2) ? 10 : 200));
            }
            for (int n = 0; n < names; n++) {
                if (oneOf(6)) {
                    lines.add("worth " + soul + " n" + (char) ('a' + n) + " " + (1 + below(99)));
                }
            }
        }
        names = Math.min(names, 9);
        souls = Math.min(souls, 9);
        return joined(lines);
    }

    private String joined(List<String> lines) {
        StringBuilder text = new StringBuilder();
        for (String line : lines) {
            if (text.length() + line.length() > 890 && !oneOf(20)) {
                break;
            }
            text.append(line).append(oneOf(10) ? blank() : "").append(';').append(oneOf(10) ? blank() : "");
        }
        return text.toString();
    }

    private String rollText() {
        int size = oneOf(12) ? 36 + below(8) : below(9);
        List<String> lines = new ArrayList<>();
        for (int i = 0; i < size; i++) {
            String soul = soulWord();
            String[] kinds = {soul + " takes " + nameWord(), soul + " swaps " + soulWord(), soul + " sells " + soulWord(), soul + " dies",
                soul + " hangs", soul + " flees", soul + " pays " + (1 + below(5)), "monday " + (oneOf(5) ? 1 + below(60) : 1 + below(3)),
                "monday 1", soul + " takes " + nameWord(), soul + " swaps " + soulWord(), soul + " sells " + soulWord()};
            lines.add(kinds[size > 30 ? 7 : below(kinds.length)]);
        }
        return joined(lines);
    }

    private String sentenceText(int within) {
        StringBuilder text = new StringBuilder();
        int parts = 1 + below(3);
        for (int i = 0; i < parts; i++) {
            if (i > 0) {
                text.append(blank()).append(oneOf(2) ? "or" : "and").append(blank());
            }
            while (oneOf(4)) {
                text.append("not").append(blank());
            }
            if (within < 10 && oneOf(4)) {
                text.append('(').append(sentenceText(within + 1)).append(')');
            } else {
                String[] kinds = {"alive", "waits", "called " + nameWord(), "fled", "glad", "purse", "owes", "feasts", "number"};
                int kind = below(kinds.length);
                text.append(kinds[kind]);
                if (kind > 4) {
                    text.append(oneOf(2) ? "" : " ").append("<=>".charAt(below(3))).append(oneOf(2) ? "" : " ").append(below(kind == 5 ? 40 : 6));
                }
            }
        }
        return text.toString();
    }

    /** At times a text with something put in, left out, or put behind it. */
    private String spoilt(String text) {
        if (!oneOf(4)) {
            return text;
        }
        int at = text.isEmpty() ? 0 : below(text.length());
        switch (below(6)) {
            case 0: return text.substring(0, at);
            case 1: return text.substring(0, at) + " " + KEYS[below(KEYS.length)] + " " + text.substring(at);
            case 2: return text.isEmpty() ? text : text.substring(0, at) + text.substring(at + 1);
            case 3: return text.isEmpty() ? text : text.substring(0, at) + (char) below(256) + text.substring(at + 1);
            case 4: return text + " ".repeat(below(30));
            default: return respelt(text);
        }
    }

    private String respelt(String text) {
        String[] words = text.split(" ");
        if (words.length > 0) {
            words[below(words.length)] = oneOf(2) ? KEYS[below(KEYS.length)] : words[below(words.length)];
        }
        return String.join(" ", words);
    }

    /** A text that comes near the most bytes told. */
    private String stretched(String text, int most) {
        if (!oneOf(10) || text.length() >= most) {
            return text;
        }
        int at = text.indexOf(' ');
        String more = " ".repeat(Math.max(0, most - text.length() + below(25) - 15));
        String long1 = at < 0 || oneOf(2) ? text + more : text.substring(0, at) + more + text.substring(at);
        return long1.length() > 940 ? text : long1;
    }

    private void step() {
        if (x.count(0) == 0 && oneOf(3) || oneOf(60)) {
            newTown();
        } else if (oneOf(15)) {
            put(stretched(spoilt(rollText()), 400));
            int lives = oneOf(20) ? below(5) - 2 : below(2);
            due("roll(" + lives + ")", x.roll(lives), model.roll(lives));
            due("fault()", x.fault(), model.fault());
            emptyTape();
        } else if (oneOf(20)) {
            put(stretched(spoilt(sentenceText(0)), 200));
            due("sentence()", x.sentence(), model.sentence());
            due("fault()", x.fault(), model.fault());
        } else if (oneOf(30)) {
            putLedger();
            due("ledger()", x.ledger(), model.ledger());
        } else {
            call(below(42));
        }
    }

    private void newTown() {
        put(stretched(spoilt(townText()), 900));
        due("town()", x.town(), model.town());
        due("fault()", x.fault(), model.fault());
        emptyTape();
        names = Math.max(1, x.count(0));
        souls = Math.max(1, x.count(1));
    }

    private void emptyTape() {
        due("end(0)", x.end(0) ? 1 : 0, model.end(0) ? 1 : 0);
    }

    private void putLedger() {
        StringBuilder row = new StringBuilder();
        int size = oneOf(9) ? below(30) : Math.min(below(20), x.now(0));
        int s = below(souls + 1);
        for (int m = 0; m < size; m++) {
            int n = oneOf(40) ? below(11) : x.called(s, m);
            row.append((char) (n < 0 ? 255 : n));
        }
        put(row.toString());
    }

    private int soulOrThrow(boolean ofModel, int s, int what) {
        try {
            return ofModel ? model.soul(s, what) : x.soul(s, what);
        } catch (NoSuchElementException e) {
            return -77;
        }
    }

    private void call(int which) {
        if (which < 14) {
            act(which);
        } else if (which < 28) {
            ask(which);
        } else {
            askMore(which);
        }
    }

    private void act(int which) {
        int s = some(souls);
        int t = some(souls);
        int n = some(names);
        int seed = random.nextInt();
        int few = oneOf(4) ? number(60) : 1 + below(3);
        switch (which) {
            case 0: case 1: due("take " + s + " " + n, x.take(s, n), model.take(s, n)); break;
            case 2: case 3: due("swap " + s + " " + t, x.swap(s, t), model.swap(s, t)); break;
            case 4: case 5: due("sell " + s + " " + t, x.sell(s, t), model.sell(s, t)); break;
            case 6: dies(s); break;
            case 7: due("flee " + s, x.flee(s), model.flee(s)); break;
            case 8: due("pay " + s + " " + few, x.pay(s, few), model.pay(s, few)); break;
            case 9: due("lot " + n + " " + seed, x.lot(n, seed), model.lot(n, seed)); break;
            case 10: case 11: due("mondays " + few, x.mondays(few), model.mondays(few)); break;
            case 12: due("undo", x.undo(), model.undo()); break;
            default: due("drawn " + few + " " + seed, x.drawn(few, seed), model.drawn(few, seed)); break;
        }
    }

    private void dies(int s) {
        int how = oneOf(9) ? below(5) - 2 : below(2);
        if (oneOf(2)) {
            due("die " + s + " " + how, x.die(s, how), model.die(s, how));
        }
    }

    private void ask(int which) {
        int s = some(souls);
        int n = some(names);
        int what = below(10) - 1;
        int monday = oneOf(9) ? below(210) - 5 : below(x.now(0) + 2);
        switch (which) {
            case 14: case 15: due("name " + n + " " + what, x.name(n, what), model.name(n, what)); break;
            case 16: case 17: due("soul " + s + " " + what, soulOrThrow(false, s, what), soulOrThrow(true, s, what)); break;
            case 18: due("worth " + s + " " + n, x.worth(s, n), model.worth(s, n)); break;
            case 19: case 20: due("now " + what, x.now(what), model.now(what)); break;
            case 21: due("called " + s + " " + monday, x.called(s, monday), model.called(s, monday)); break;
            case 22: due("holder " + n + " " + monday, x.holder(n, monday), model.holder(n, monday)); break;
            case 23: due("bearers " + n, x.bearers(n), model.bearers(n)); break;
            case 24: due("howLong " + s + " " + n, x.howLong(s, n), model.howLong(s, n)); break;
            case 25: due("wishes", x.wishes(), model.wishes()); break;
            case 26: due("swaps", x.swaps(), model.swaps()); break;
            default: due("partner " + s, x.partner(s), model.partner(s)); break;
        }
    }

    private void askMore(int which) {
        int s = some(souls);
        int n = some(names);
        int k = below(12) - 2;
        int set = oneOf(9) ? random.nextInt() : below(1 << souls);
        int few = number(30);
        int seed = random.nextInt();
        int many = number(99);
        int monday = oneOf(4) ? below(220) - 10 : below(20);
        switch (which) {
            case 28: due("bidder " + n, x.bidder(n), model.bidder(n)); break;
            case 29: due("bid " + n, x.bid(n), model.bid(n)); break;
            case 30: due("must " + monday, x.must(monday), model.must(monday)); break;
            case 31: due("votes " + set, x.votes(set), model.votes(set)); break;
            case 32: due("party", x.party(), model.party()); break;
            case 33: due("least " + s, x.least(s), model.least(s)); break;
            case 34: due("cheapest", x.cheapest(), model.cheapest()); break;
            case 35: due("feasts " + n + " " + many, x.feasts(n, many), model.feasts(n, many)); break;
            case 36: due("queue " + k, x.queue(k), model.queue(k)); break;
            case 37: due("odds " + s + " " + few, x.odds(s, few, seed), model.odds(s, few, seed)); break;
            case 38: due("rolled " + k, x.rolled(k), model.rolled(k)); break;
            case 39: due("said " + k, x.said(k), model.said(k)); break;
            case 40: images(below(4) - 1); break;
            default: due("count " + k, x.count(k), model.count(k)); break;
        }
    }

    private void images(int k) {
        if (oneOf(2)) {
            due("image " + k, x.image(k) ? 1 : 0, model.image(k) ? 1 : 0);
        } else {
            due("restore " + k, x.restore(k) ? 1 : 0, model.restore(k) ? 1 : 0);
            names = Math.max(1, x.count(0));
            souls = Math.max(1, x.count(1));
        }
    }
}
