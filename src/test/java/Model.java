import java.util.ArrayDeque;
import java.util.ArrayList;
import java.util.Arrays;
import java.util.Collections;
import java.util.Deque;
import java.util.HashMap;
import java.util.HashSet;
import java.util.LinkedHashMap;
import java.util.List;
import java.util.Map;
import java.util.NoSuchElementException;
import java.util.Set;
import java.util.TreeSet;

/** A second writing of the document, by its words and with the whole library, to compare the class with. */
final class Model {
    private static final int NONE = -1;
    private static final Set<String> OWN = new HashSet<>(Arrays.asList(("name debt feast soul called wish worth old takes swaps "
        + "sells dies hangs flees pays monday or and not alive waits fled glad purse owes feasts number").split(" ")));

    private static final class Fault extends Exception {
        private static final long serialVersionUID = 1;
        final int kind;
        final int place;

        Fault(int kind, int place) {
            this.kind = kind;
            this.place = place;
        }
    }

    private static final class Token {
        final String text;
        final int place;

        Token(String text, int place) {
            this.text = text;
            this.place = place;
        }

        boolean isWord() {
            return text.matches("[a-z]{1,7}");
        }

        boolean isNumber() {
            return text.matches("[0-9]{1,3}");
        }

        boolean isToken() {
            return isWord() || isNumber() || text.matches("[;<=>()]");
        }
    }

    /** The TOKENS of a text, all at once; the last one is the end, or where the text is too long. */
    private static List<Token> tokens(String text, int most) {
        List<Token> found = new ArrayList<>();
        int i = 0;
        while (i < text.length() && i < most) {
            char c = text.charAt(i);
            int j = i + 1;
            if (c != ' ' && c != '\n') {
                while (isRun(c) && j < text.length() && isRun(text.charAt(j))) {
                    j++;
                }
                found.add(new Token(text.substring(i, j), i));
            }
            i = j;
        }
        found.add(text.length() > most ? new Token("too long", most) : new Token("", text.length()));
        return found;
    }

    private static boolean isRun(char c) {
        return c >= 'a' && c <= 'z' || c >= '0' && c <= '9';
    }

    private static final class Source {
        final List<Token> tokens;
        int at = 0;

        Source(String text, int most) {
            tokens = tokens(text, most);
        }

        Token ahead() {
            return tokens.get(at);
        }

        boolean isEnd() {
            return ahead().text.isEmpty();
        }

        boolean is(String text) {
            return ahead().text.equals(text);
        }

        Token next() {
            return tokens.get(at++);
        }

        Token word() throws Fault {
            if (!ahead().isWord()) {
                throw new Fault(1, ahead().place);
            }
            return next();
        }

        void pass(String text) throws Fault {
            if (!is(text)) {
                throw new Fault(1, ahead().place);
            }
            next();
        }

        int number(int low, int high) throws Fault {
            if (!ahead().isNumber()) {
                throw new Fault(1, ahead().place);
            }
            int value = Integer.parseInt(ahead().text);
            if (value < low || value > high) {
                throw new Fault(2, ahead().place);
            }
            next();
            return value;
        }
    }

    private static final class NameOf {
        String word;
        int price;
        Integer debt;
        Integer every;
        boolean sour;
        int hanged = -100;

        NameOf copy() {
            NameOf c = new NameOf();
            c.word = word;
            c.price = price;
            c.debt = debt;
            c.every = every;
            c.sour = sour;
            c.hanged = hanged;
            return c;
        }

        int owes() {
            return debt == null ? 0 : debt;
        }
    }

    private static final class SoulOf {
        String word;
        int purse;
        Integer called;
        Integer wish;
        Integer old;
        Map<Integer, Integer> worth = new HashMap<>();
        boolean dead;
        boolean changed;
        boolean fled;
        int feasts;

        SoulOf copy() {
            SoulOf c = new SoulOf();
            c.word = word;
            c.purse = purse;
            c.called = called;
            c.wish = wish;
            c.old = old;
            c.worth = new HashMap<>(worth);
            c.dead = dead;
            c.changed = changed;
            c.fled = fled;
            c.feasts = feasts;
            return c;
        }
    }

    private static final class World {
        List<NameOf> names = new ArrayList<>();
        List<SoulOf> souls = new ArrayList<>();
        List<Integer> queue = new ArrayList<>();
        List<int[]> past = new ArrayList<>();

        World copy() {
            World c = new World();
            for (NameOf n : names) {
                c.names.add(n.copy());
            }
            for (SoulOf s : souls) {
                c.souls.add(s.copy());
            }
            c.queue.addAll(queue);
            c.past.addAll(past);
            return c;
        }

        int monday() {
            return past.size();
        }

        int holder(int n) {
            for (int s = 0; s < souls.size(); s++) {
                if (souls.get(s).called != null && souls.get(s).called == n) {
                    return s;
                }
            }
            return NONE;
        }

        int yet(int n) {
            int over = monday() - names.get(n).hanged;
            return over < 12 ? 12 - over : 0;
        }

        int cost(int n) {
            int price = names.get(n).price;
            return yet(n) > 0 ? price / 2 : price;
        }

        int take(int s, int n) {
            SoulOf soul = souls.get(s);
            boolean[] against = {soul.dead, soul.called != null, holder(n) != NONE, names.get(n).sour,
                !queue.isEmpty() && queue.get(0) != s, soul.purse < cost(n)};
            int why = first(against);
            if (why == 0) {
                soul.purse -= cost(n);
                christen(s, n);
            }
            return why;
        }

        void christen(int s, int n) {
            souls.get(s).called = n;
            souls.get(s).changed = true;
            queue.remove((Integer) s);
        }

        int swap(int s, int t) {
            SoulOf a = souls.get(s);
            SoulOf b = souls.get(t);
            int why = s == t ? 9 : first(a.dead || b.dead, a.called == null || b.called == null, a.changed || b.changed);
            if (why == 0) {
                Integer n = a.called;
                a.called = b.called;
                b.called = n;
                a.changed = true;
                b.changed = true;
            }
            return why;
        }

        int sell(int s, int t) {
            SoulOf a = souls.get(s);
            SoulOf b = souls.get(t);
            int why = s == t ? 9 : first(a.dead || b.dead, a.called == null || b.called != null, a.changed || b.changed,
                a.called != null && b.purse < names.get(a.called).price);
            if (why == 0) {
                int price = names.get(a.called).price;
                a.purse += price;
                b.purse -= price;
                int n = a.called;
                a.called = null;
                christen(t, n);
                a.changed = true;
                queue.add(s);
            }
            return why;
        }

        int die(int s, boolean hangs) {
            SoulOf soul = souls.get(s);
            if (soul.dead) {
                return 1;
            }
            if (hangs && soul.called != null) {
                names.get(soul.called).hanged = monday();
            }
            soul.dead = true;
            soul.called = null;
            queue.remove((Integer) s);
            return 0;
        }

        int flee(int s) {
            SoulOf soul = souls.get(s);
            int why = first(soul.dead, soul.called == null, soul.changed);
            if (why == 0) {
                names.get(soul.called).sour = true;
                soul.called = null;
                soul.changed = true;
                soul.fled = true;
                queue.add(s);
            }
            return why;
        }

        int owes(int s) {
            Integer n = souls.get(s).called;
            return n == null ? 0 : names.get(n).owes();
        }

        int pay(int s, int n) {
            SoulOf soul = souls.get(s);
            int why = first(soul.dead, soul.called == null, n > owes(s), soul.purse < n);
            if (why == 0) {
                soul.purse -= n;
                names.get(soul.called).debt -= n;
            }
            return why;
        }

        boolean go() {
            if (monday() == 200) {
                return false;
            }
            int[] row = new int[souls.size()];
            for (int s = 0; s < row.length; s++) {
                SoulOf soul = souls.get(s);
                row[s] = soul.called == null ? NONE : soul.called;
                soul.changed = false;
                if (soul.called != null && names.get(soul.called).every != null && monday() % names.get(soul.called).every == 0) {
                    soul.feasts++;
                    soul.purse = soul.purse < 2 ? 0 : soul.purse - 2;
                }
            }
            past.add(row);
            return true;
        }

        int drawn(int n, int seed) {
            int[] x = {seed};
            int went = 0;
            while (went < n && monday() < 200) {
                for (int s = 0; s < souls.size(); s++) {
                    if (souls.get(s).dead) {
                        continue;
                    }
                    int what = draw(x, 8);
                    if (what == 0) {
                        swap(s, draw(x, souls.size()));
                    } else if (what == 1) {
                        take(s, draw(x, names.size()));
                    } else if (what == 2) {
                        flee(s);
                    } else if (what == 3 && draw(x, 5) == 0) {
                        die(s, false);
                    }
                }
                go();
                went++;
            }
            return went;
        }
    }

    private static int draw(int[] x, int n) {
        x[0] = (int) (x[0] * 1103515245L + 12345L);
        return (int) (((x[0] & 0xffffffffL) >> 8) % n);
    }

    private static int first(boolean... against) {
        for (int i = 0; i < against.length; i++) {
            if (against[i]) {
                return i + 1;
            }
        }
        return 0;
    }

    private interface Cond {
        boolean holds(World w, int s);
    }

    private String tape = "";
    private World w = new World();
    private Cond saying = null;
    private int fault = 0;
    private final Deque<World> undos = new ArrayDeque<>();
    private Map<Integer, Integer> partners = new HashMap<>();
    private int cheapest = NONE;
    private int[] rolled = null;
    private final World[] imageWorld = new World[2];
    private final Cond[] imageSaying = new Cond[2];

    int feed(int a, int b, int c, int d, int e) {
        if (tape.length() + 20 > 940) {
            return NONE;
        }
        StringBuilder more = new StringBuilder(tape);
        for (int x : new int[] {a, b, c, d, e}) {
            more.append((char) (x >> 24 & 255)).append((char) (x >> 16 & 255)).append((char) (x >> 8 & 255)).append((char) (x & 255));
        }
        tape = more.toString();
        return tape.length();
    }

    boolean end(int n) {
        if (n < 0 || n > tape.length()) {
            return false;
        }
        tape = tape.substring(0, n);
        return true;
    }

    private static int index(World in, Token token, boolean isName) {
        int size = isName ? in.names.size() : in.souls.size();
        for (int i = 0; i < size; i++) {
            if ((isName ? in.names.get(i).word : in.souls.get(i).word).equals(token.text)) {
                return i;
            }
        }
        return NONE;
    }

    /** A WORD that may stand for a NAME or a SOUL: none of the document's own. */
    private static Token freeWord(Source source) throws Fault {
        Token token = source.word();
        if (OWN.contains(token.text)) {
            throw new Fault(1, token.place);
        }
        return token;
    }

    private static int known(World in, Source source, boolean isName) throws Fault {
        Token token = freeWord(source);
        int found = index(in, token, isName);
        if (found == NONE) {
            throw new Fault(3, token.place);
        }
        return found;
    }

    private static String fresh(World in, Source source) throws Fault {
        Token token = freeWord(source);
        if (index(in, token, true) != NONE || index(in, token, false) != NONE) {
            throw new Fault(3, token.place);
        }
        return token.text;
    }

    private static void once(boolean isTold, int place) throws Fault {
        if (isTold) {
            throw new Fault(3, place);
        }
    }

    private static void townLine(World in, Source source) throws Fault {
        Token head = source.word();
        int second = source.ahead().place;
        switch (head.text) {
            case "name": {
                if (in.names.size() == 9) {
                    throw new Fault(4, head.place);
                }
                NameOf name = new NameOf();
                name.word = fresh(in, source);
                name.price = source.number(0, 99);
                in.names.add(name);
                break;
            }
            case "debt": {
                NameOf name = in.names.get(known(in, source, true));
                once(name.debt != null, second);
                name.debt = source.number(0, 99);
                break;
            }
            case "feast": {
                NameOf name = in.names.get(known(in, source, true));
                once(name.every != null, second);
                name.every = source.number(1, 9);
                break;
            }
            case "soul": {
                if (in.souls.size() == 9) {
                    throw new Fault(4, head.place);
                }
                SoulOf soul = new SoulOf();
                soul.word = fresh(in, source);
                soul.purse = source.number(0, 999);
                if (source.is("called")) {
                    source.next();
                    int place = source.ahead().place;
                    int n = known(in, source, true);
                    once(in.holder(n) != NONE, place);
                    soul.called = n;
                } else {
                    in.queue.add(in.souls.size());
                }
                in.souls.add(soul);
                break;
            }
            case "wish": {
                SoulOf soul = in.souls.get(known(in, source, false));
                once(soul.wish != null, second);
                soul.wish = known(in, source, true);
                break;
            }
            case "worth": {
                SoulOf soul = in.souls.get(known(in, source, false));
                int place = source.ahead().place;
                int n = known(in, source, true);
                once(soul.worth.containsKey(n), place);
                soul.worth.put(n, source.number(1, 99));
                break;
            }
            case "old": {
                SoulOf soul = in.souls.get(known(in, source, false));
                once(soul.old != null, second);
                soul.old = source.number(0, 199);
                break;
            }
            default:
                throw new Fault(1, head.place);
        }
        source.pass(";");
    }

    private String takeTape() {
        String text = tape;
        tape = "";
        return text;
    }

    int town() {
        World made = new World();
        Source source = new Source(takeTape(), 900);
        int lines = 0;
        fault = 0;
        try {
            while (!source.isEnd()) {
                townLine(made, source);
                lines++;
            }
        } catch (Fault f) {
            fault = f.kind;
            return -1 - f.place;
        }
        w = made;
        saying = null;
        undos.clear();
        return lines;
    }

    int fault() {
        return fault;
    }

    private boolean isName(int n) {
        return n >= 0 && n < w.names.size();
    }

    private boolean isSoul(int s) {
        return s >= 0 && s < w.souls.size();
    }

    private static int orNone(Integer value) {
        return value == null ? NONE : value;
    }

    int name(int n, int what) {
        if (!isName(n) || what < 0 || what > 6) {
            return NONE;
        }
        NameOf name = w.names.get(n);
        return new int[] {name.price, w.cost(n), name.owes(), w.holder(n), name.sour ? 1 : 0, w.yet(n), orNone(name.every)}[what];
    }

    int soul(int s, int what) {
        if (!isSoul(s) || what < 0 || what > 7) {
            throw new NoSuchElementException();
        }
        SoulOf soul = w.souls.get(s);
        return new int[] {orNone(soul.called), soul.purse, soul.dead ? 0 : 1, orNone(soul.wish), w.queue.indexOf(s),
            soul.changed ? 1 : 0, soul.fled ? 1 : 0, soul.feasts}[what];
    }

    int worth(int s, int n) {
        return isSoul(s) && isName(n) ? w.souls.get(s).worth.getOrDefault(n, 0) : NONE;
    }

    int now(int what) {
        int live = 0;
        int fled = 0;
        int free = 0;
        int purses = 0;
        int owed = 0;
        for (int s = 0; s < w.souls.size(); s++) {
            live += w.souls.get(s).dead ? 0 : 1 << s;
            fled += w.souls.get(s).fled ? 1 << s : 0;
            purses += w.souls.get(s).purse;
        }
        for (int n = 0; n < w.names.size(); n++) {
            free += w.holder(n) == NONE ? 1 << n : 0;
            owed += w.names.get(n).owes();
        }
        int[] all = {w.monday(), live, free, w.queue.size(), purses, owed, fled};
        return what < 0 || what > 6 ? NONE : all[what];
    }

    private void keep(World ahead) {
        undos.push(ahead);
        if (undos.size() > 4) {
            undos.removeLast();
        }
    }

    private int done(int why, World ahead) {
        if (why == 0) {
            keep(ahead);
        }
        return why;
    }

    int take(int s, int n) {
        World ahead = w.copy();
        return isSoul(s) && isName(n) ? done(w.take(s, n), ahead) : NONE;
    }

    int swap(int s, int t) {
        World ahead = w.copy();
        return isSoul(s) && isSoul(t) && s != t ? done(w.swap(s, t), ahead) : NONE;
    }

    int sell(int s, int t) {
        World ahead = w.copy();
        return isSoul(s) && isSoul(t) && s != t ? done(w.sell(s, t), ahead) : NONE;
    }

    int die(int s, int how) {
        World ahead = w.copy();
        return isSoul(s) && (how == 0 || how == 1) ? done(w.die(s, how == 1), ahead) : NONE;
    }

    int flee(int s) {
        World ahead = w.copy();
        return isSoul(s) ? done(w.flee(s), ahead) : NONE;
    }

    int pay(int s, int n) {
        World ahead = w.copy();
        return isSoul(s) && n >= 1 && n <= 99 ? done(w.pay(s, n), ahead) : NONE;
    }

    int lot(int n, int seed) {
        if (!isName(n)) {
            return NONE;
        }
        if (!w.names.get(n).sour || w.holder(n) != NONE) {
            return -2;
        }
        if (w.queue.isEmpty()) {
            return -3;
        }
        keep(w.copy());
        int s = w.queue.get(draw(new int[] {seed}, w.queue.size()));
        w.christen(s, n);
        w.names.get(n).sour = false;
        return s;
    }

    int mondays(int n) {
        if (n < 1 || n > 60) {
            return NONE;
        }
        World ahead = w.copy();
        int went = 0;
        while (went < n && w.go()) {
            went++;
        }
        if (went > 0) {
            keep(ahead);
        }
        return went;
    }

    int undo() {
        if (undos.isEmpty()) {
            return NONE;
        }
        w = undos.pop();
        return undos.size();
    }

    int called(int s, int monday) {
        return isSoul(s) && monday >= 0 && monday < w.monday() ? w.past.get(monday)[s] : -2;
    }

    int holder(int n, int monday) {
        if (!isName(n) || monday < 0 || monday >= w.monday()) {
            return -2;
        }
        for (int s = 0; s < w.souls.size(); s++) {
            if (w.past.get(monday)[s] == n) {
                return s;
            }
        }
        return NONE;
    }

    int bearers(int n) {
        Set<Integer> found = new HashSet<>();
        for (int m = 0; m < w.monday(); m++) {
            found.add(holder(n, m));
        }
        found.remove(NONE);
        return isName(n) ? found.size() : NONE;
    }

    int howLong(int s, int n) {
        int times = 0;
        for (int[] row : w.past) {
            times += isSoul(s) && isName(n) && row[s] == n ? 1 : 0;
        }
        return isSoul(s) && isName(n) ? times : NONE;
    }

    /** Where each one's wish lies: the one to swap towards; null, if never. */
    private Map<Integer, Integer> wished() {
        Map<Integer, Integer> towards = new LinkedHashMap<>();
        for (int s = 0; s < w.souls.size(); s++) {
            SoulOf soul = w.souls.get(s);
            if (!soul.dead && soul.wish != null) {
                int t = w.holder(soul.wish);
                if (soul.called == null || t == NONE || towards.containsValue(t)) {
                    return null;
                }
                towards.put(s, t);
            }
        }
        return towards;
    }

    /** The rings that the SOULS lie in, once every row of wishes is closed to a ring. */
    private static List<Integer> rings(Map<Integer, Integer> towards) {
        Map<Integer, Integer> closed = new HashMap<>(towards);
        for (Integer end : towards.values()) {
            if (!towards.containsKey(end)) {
                int start = end;
                boolean moved = true;
                while (moved) {
                    moved = false;
                    for (Map.Entry<Integer, Integer> e : towards.entrySet()) {
                        if (e.getValue() == start) {
                            start = e.getKey();
                            moved = true;
                            break;
                        }
                    }
                }
                closed.put(end, start);
            }
        }
        List<Integer> sizes = new ArrayList<>();
        Set<Integer> left = new TreeSet<>(closed.keySet());
        while (!left.isEmpty()) {
            int s = left.iterator().next();
            int size = 0;
            while (left.remove(s)) {
                s = closed.get(s);
                size++;
            }
            sizes.add(size);
        }
        return sizes;
    }

    int wishes() {
        partners = new HashMap<>();
        Map<Integer, Integer> towards = wished();
        if (towards == null) {
            return NONE;
        }
        int longest = rings(towards).stream().mapToInt(x -> x).max().orElse(1);
        if (longest == 2) {
            towards.forEach((s, t) -> {
                if (!s.equals(t)) {
                    partners.put(s, t);
                    partners.put(t, s);
                }
            });
        }
        return Math.min(longest, 3) - 1;
    }

    int swaps() {
        Map<Integer, Integer> towards = wished();
        return towards == null ? NONE : rings(towards).stream().mapToInt(x -> x - 1).sum();
    }

    int partner(int s) {
        return isSoul(s) ? partners.getOrDefault(s, NONE) : NONE;
    }

    private List<int[]> bids(int n) {
        List<int[]> found = new ArrayList<>();
        for (int s : w.queue) {
            Integer worth = w.souls.get(s).worth.get(n);
            if (worth != null) {
                found.add(new int[] {s, Math.min(worth, w.souls.get(s).purse)});
            }
        }
        Collections.sort(found, (a, b) -> b[1] - a[1]);
        return found;
    }

    int bidder(int n) {
        return bids(n).isEmpty() ? NONE : bids(n).get(0)[0];
    }

    int bid(int n) {
        List<int[]> all = bids(n);
        return all.isEmpty() ? NONE : all.size() == 1 ? 0 : all.get(1)[1];
    }

    int must(int monday) {
        if (monday < 0 || monday > 199) {
            return NONE;
        }
        int free = now(2);
        for (SoulOf soul : w.souls) {
            if (soul.called != null && soul.old != null && soul.old <= monday) {
                free |= 1 << soul.called;
            }
        }
        return free;
    }

    int ledger() {
        String text = takeTape();
        if (text.isEmpty() || text.length() > w.monday()) {
            return NONE;
        }
        int fits = (1 << w.souls.size()) - 1;
        for (int m = 0; m < text.length(); m++) {
            int n = text.charAt(m);
            if (n != 255 && !isName(n)) {
                return NONE;
            }
            for (int s = 0; s < w.souls.size(); s++) {
                if (w.past.get(m)[s] != (n == 255 ? NONE : n)) {
                    fits &= ~(1 << s);
                }
            }
        }
        return fits;
    }

    int votes(int set) {
        if (set < 0 || set >> w.souls.size() != 0) {
            return NONE;
        }
        int all = w.queue.isEmpty() ? 0 : 1;
        int have = all;
        for (int s : w.queue) {
            have = (set & 1 << s) == 0 ? 0 : have;
        }
        for (int s = 0; s < w.souls.size(); s++) {
            if (w.souls.get(s).called != null) {
                all++;
                have += set >> s & 1;
            }
        }
        return have > all - have ? 1 : 0;
    }

    int party() {
        for (int size = 0; size <= w.souls.size(); size++) {
            for (int set = 0; set < 1 << w.souls.size(); set++) {
                if (Integer.bitCount(set) == size && (set & now(1)) == set && votes(set) == 1) {
                    return set;
                }
            }
        }
        return NONE;
    }

    int least(int s) {
        if (!isSoul(s) || !w.queue.contains(s)) {
            return NONE;
        }
        int best = 1000;
        int which = NONE;
        for (int n = 0; n < w.names.size(); n++) {
            int t = w.holder(n);
            boolean toTake = t == NONE && !w.names.get(n).sour;
            boolean toBuy = t != NONE && !w.souls.get(t).changed && !w.souls.get(s).changed;
            int coin = toTake ? w.cost(n) : toBuy ? w.names.get(n).price : 1000;
            if (coin < best) {
                best = coin;
                which = n;
            }
        }
        if (which != NONE) {
            cheapest = which;
        }
        return which == NONE ? NONE : best;
    }

    int cheapest() {
        return cheapest;
    }

    int feasts(int n, int mondays) {
        if (!isName(n) || mondays < 1 || mondays > 99) {
            return NONE;
        }
        int fall = 0;
        for (int m = w.monday(); m < 200 && m < w.monday() + mondays; m++) {
            fall += w.names.get(n).every != null && m % w.names.get(n).every == 0 ? 1 : 0;
        }
        return fall;
    }

    int queue(int k) {
        return k >= 0 && k < w.queue.size() ? w.queue.get(k) : NONE;
    }

    int drawn(int n, int seed) {
        if (n < 1 || n > 60 || w.souls.isEmpty() || w.names.isEmpty()) {
            return NONE;
        }
        World ahead = w.copy();
        int went = w.drawn(n, seed);
        if (went > 0) {
            keep(ahead);
        }
        return went;
    }

    int odds(int s, int n, int seed) {
        if (!isSoul(s) || n < 1 || n > 30 || w.names.isEmpty()) {
            return NONE;
        }
        int called = 0;
        for (int i = 0; i < n; i++) {
            World from = w.copy();
            from.drawn(20, seed + i);
            called += from.souls.get(s).called == null ? 0 : 1;
        }
        return called;
    }

    private List<String[]> rollLines(Source source) throws Fault {
        List<String[]> lines = new ArrayList<>();
        while (!source.isEnd()) {
            Token head = source.is("monday") ? source.next() : freeWord(source);
            int s = index(w, head, false);
            if (s == NONE && !head.text.equals("monday")) {
                throw new Fault(3, head.place);
            }
            if (lines.size() == 40) {
                throw new Fault(4, head.place);
            }
            String verb = "monday";
            int object = 0;
            if (s == NONE) {
                object = source.number(1, 60);
            } else {
                verb = source.ahead().text;
                if (!Arrays.asList("takes", "swaps", "sells", "dies", "hangs", "flees", "pays").contains(verb)) {
                    throw new Fault(1, source.ahead().place);
                }
                source.next();
                if (verb.equals("takes")) {
                    object = known(w, source, true);
                } else if (verb.equals("swaps") || verb.equals("sells")) {
                    object = known(w, source, false);
                } else if (verb.equals("pays")) {
                    object = source.number(1, 99);
                }
            }
            source.pass(";");
            lines.add(new String[] {verb, "" + s, "" + object});
        }
        return lines;
    }

    private static int live(World in, String[] line) {
        int s = Integer.parseInt(line[1]);
        int t = Integer.parseInt(line[2]);
        switch (line[0]) {
            case "takes": return in.take(s, t);
            case "swaps": return ten(10, in.swap(s, t));
            case "sells": return ten(20, in.sell(s, t));
            case "dies": return ten(30, in.die(s, false));
            case "hangs": return ten(30, in.die(s, true));
            case "flees": return ten(40, in.flee(s));
            case "pays": return ten(50, in.pay(s, t));
            default:
                if (in.monday() + t > 200) {
                    return 61;
                }
                for (int i = 0; i < t; i++) {
                    in.go();
                }
                return 0;
        }
    }

    private static int ten(int more, int why) {
        return why == 0 ? 0 : why + more;
    }

    int roll(int lives) {
        if (lives != 0 && lives != 1) {
            return -1000;
        }
        fault = 0;
        List<String[]> lines;
        try {
            lines = rollLines(new Source(takeTape(), 400));
        } catch (Fault f) {
            fault = f.kind;
            return -2 - f.place;
        }
        World judged = w.copy();
        int good = 0;
        int why = 0;
        while (good < lines.size() && why == 0) {
            why = live(judged, lines.get(good));
            good += why == 0 ? 1 : 0;
        }
        rolled = new int[] {why, good, judged.monday(), judged.queue.size()};
        if (lives == 1) {
            keep(w);
            w = judged;
        }
        return why == 0 ? NONE : good;
    }

    int rolled(int what) {
        return rolled == null || what < 0 || what > 3 ? NONE : rolled[what];
    }

    private int ones;

    private Cond cond(Source source, int within) throws Fault {
        Cond left = all(source, within);
        while (source.is("or")) {
            source.next();
            Cond a = left;
            Cond b = all(source, within);
            left = (in, s) -> a.holds(in, s) || b.holds(in, s);
        }
        return left;
    }

    private Cond all(Source source, int within) throws Fault {
        Cond left = one(source, within);
        while (source.is("and")) {
            source.next();
            Cond a = left;
            Cond b = one(source, within);
            left = (in, s) -> a.holds(in, s) && b.holds(in, s);
        }
        return left;
    }

    private Cond one(Source source, int within) throws Fault {
        Token head = source.ahead();
        if (!Arrays.asList("not", "(", "alive", "waits", "called", "fled", "glad", "purse", "owes", "feasts", "number").contains(head.text)) {
            throw new Fault(1, head.place);
        }
        if (ones == 20 || within == 8) {
            throw new Fault(4, head.place);
        }
        ones++;
        source.next();
        switch (head.text) {
            case "not": {
                Cond of = one(source, within + 1);
                return (in, s) -> !of.holds(in, s);
            }
            case "(": {
                Cond of = cond(source, within + 1);
                source.pass(")");
                return of;
            }
            case "alive": return (in, s) -> !in.souls.get(s).dead;
            case "waits": return (in, s) -> in.queue.contains(s);
            case "fled": return (in, s) -> in.souls.get(s).fled;
            case "glad": return (in, s) -> in.souls.get(s).called != null && in.souls.get(s).called.equals(in.souls.get(s).wish);
            case "called": {
                Integer n = known(w, source, true);
                return (in, s) -> n.equals(in.souls.get(s).called);
            }
            default:
                return measure(head.text, source);
        }
    }

    private static Cond measure(String what, Source source) throws Fault {
        String sign = source.ahead().text;
        if (!sign.matches("[<=>]")) {
            throw new Fault(1, source.ahead().place);
        }
        source.next();
        int value = source.number(0, 999);
        return (in, s) -> {
            SoulOf soul = in.souls.get(s);
            int is = what.equals("purse") ? soul.purse : what.equals("owes") ? in.owes(s) : what.equals("feasts") ? soul.feasts : s;
            return sign.equals("<") ? is < value : sign.equals("=") ? is == value : is > value;
        };
    }

    int sentence() {
        fault = 0;
        ones = 0;
        try {
            Source source = new Source(takeTape(), 200);
            Cond made = cond(source, 0);
            if (!source.isEnd()) {
                throw new Fault(1, source.ahead().place);
            }
            saying = made;
            return ones;
        } catch (Fault f) {
            fault = f.kind;
            return -1 - f.place;
        }
    }

    int said(int k) {
        if (saying == null) {
            return NONE;
        }
        List<Integer> found = new ArrayList<>();
        for (int s = 0; s < w.souls.size(); s++) {
            if (saying.holds(w, s)) {
                found.add(s);
            }
        }
        return k == NONE ? found.size() : k < 0 || k >= found.size() ? NONE : found.get(k);
    }

    boolean image(int k) {
        if (k != 0 && k != 1) {
            return false;
        }
        imageWorld[k] = w.copy();
        imageSaying[k] = saying;
        return true;
    }

    boolean restore(int k) {
        if (k != 0 && k != 1 || imageWorld[k] == null) {
            return false;
        }
        w = imageWorld[k].copy();
        saying = imageSaying[k];
        undos.clear();
        return true;
    }

    int count(int what) {
        return what == 0 ? w.names.size() : what == 1 ? w.souls.size() : what == 2 ? tape.length() : NONE;
    }
}
