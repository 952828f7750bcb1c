import java.util.NoSuchElementException;

/**
 * A town that has just so many names. What each call answers stands in the document, promise by promise.
 *
 * <p>Every row is made once, with the object: the calls of a run share one room, so none of them makes anything.
 */
public final class NamesAgain {
    public static final int NONE = -1;

    private static final int MOST_NAMES = 9;
    private static final int MOST_SOULS = 9;
    private static final int ALL_MONDAYS = 200;
    private static final int MOST_AT_ONCE = 60;
    private static final int IMAGES = 2;

    // The sorts of acts; ten times one of the first seven is where a ROLL's reasons of that sort begin.
    private static final int TAKE = 0;
    private static final int SWAP = 1;
    private static final int SELL = 2;
    private static final int DIE = 3;
    private static final int FLEE = 4;
    private static final int PAY = 5;
    private static final int MONDAYS = 6;
    private static final int HANG = 7;

    private final Tape tape;
    private final Told told;
    private final Told draft;
    private final TownReader townReader;
    private final Life life;
    private final Life spare;
    private final Undo undos;
    private final Roll lines;
    private final Sentence saying;
    private final Sentence newSaying;
    private final Wishes wishing;
    private final Market market;
    private final Draw draw;
    private final Image[] images;
    private int latestFault;

    public NamesAgain() {
        tape = new Tape();
        told = new Told();
        draft = new Told();
        townReader = new TownReader(tape, draft);
        life = new Life(told);
        spare = new Life(told);
        undos = new Undo(told);
        lines = new Roll(tape, told);
        saying = new Sentence(tape, told);
        newSaying = new Sentence(tape, told);
        wishing = new Wishes(told, life);
        market = new Market(told, life);
        draw = new Draw();
        images = new Image[IMAGES];
        for (int k = 0; k < IMAGES; k++) {
            images[k] = new Image(tape);
        }
    }

    public int feed(int a, int b, int c, int d, int e) {
        if (!tape.hasRoom(20)) {
            return NONE;
        }
        tape.put(a);
        tape.put(b);
        tape.put(c);
        tape.put(d);
        tape.put(e);
        return tape.length;
    }

    public boolean end(int n) {
        if (n < 0 || n > tape.length) {
            return false;
        }
        tape.length = n;
        return true;
    }

    public int town() {
        boolean good = townReader.read();
        tape.length = 0;
        latestFault = tape.faultKind;
        if (!good) {
            return -1 - tape.faultPlace;
        }
        told.copyFrom(draft);
        life.begin();
        undos.forget();
        saying.ones = 0;
        return townReader.lineCount;
    }

    public int fault() {
        return latestFault;
    }

    public int name(int n, int what) {
        if (!told.isName(n)) {
            return NONE;
        }
        switch (what) {
            case 0: return told.price[n];
            case 1: return life.cost(n);
            case 2: return life.debt[n];
            case 3: return life.bearer[n];
            case 4: return life.isSour(n) ? 1 : 0;
            case 5: return life.hangedYet(n);
            case 6: return told.every[n];
            default: return NONE;
        }
    }

    public int soul(int s, int what) throws NoSuchElementException {
        if (!told.isSoul(s) || what < 0 || what > 7) {
            throw new NoSuchElementException();
        }
        switch (what) {
            case 0: return life.nameOf[s];
            case 1: return life.purse[s];
            case 2: return life.isAlive(s) ? 1 : 0;
            case 3: return told.wish[s];
            case 4: return life.waitAhead(s);
            case 5: return life.hasChanged(s) ? 1 : 0;
            case 6: return life.hasFled(s) ? 1 : 0;
            default: return life.feasted[s];
        }
    }

    public int worth(int s, int n) {
        return told.isSoul(s) && told.isName(n) ? told.worthOf(s, n) : NONE;
    }

    public int now(int what) {
        switch (what) {
            case 0: return life.monday;
            case 1: return life.living;
            case 2: return life.freeNames();
            case 3: return life.waitCount;
            case 4: return sum(life.purse, told.souls);
            case 5: return sum(life.debt, told.names);
            case 6: return life.fugitives;
            default: return NONE;
        }
    }

    public int take(int s, int n) {
        return told.isSoul(s) && told.isName(n) ? attempt(TAKE, s, n) : NONE;
    }

    public int swap(int s, int t) {
        return areTwo(s, t) ? attempt(SWAP, s, t) : NONE;
    }

    public int sell(int s, int t) {
        return areTwo(s, t) ? attempt(SELL, s, t) : NONE;
    }

    public int die(int s, int how) {
        if (!told.isSoul(s) || how < 0 || how > 1) {
            return NONE;
        }
        return attempt(how == 0 ? DIE : HANG, s, 0);
    }

    public int flee(int s) {
        return told.isSoul(s) ? attempt(FLEE, s, 0) : NONE;
    }

    public int pay(int s, int n) {
        return told.isSoul(s) && n >= 1 && n <= 99 ? attempt(PAY, s, n) : NONE;
    }

    public int lot(int n, int seed) {
        if (!told.isName(n)) {
            return NONE;
        }
        if (!life.isSour(n) || life.bearer[n] != NONE) {
            return -2;
        }
        if (life.waitCount == 0) {
            return -3;
        }
        undos.keep(life);
        draw.seed = seed;
        return life.drawLot(n, draw);
    }

    public int mondays(int n) {
        if (n < 1 || n > MOST_AT_ONCE) {
            return NONE;
        }
        int going = Math.min(n, ALL_MONDAYS - life.monday);
        if (going > 0) {
            undos.keep(life);
            life.passMondays(going);
        }
        return going;
    }

    public int undo() {
        return undos.takeBack(life) ? undos.size : NONE;
    }

    public int called(int s, int monday) {
        return told.isSoul(s) && life.hasGone(monday) ? life.calledThen(s, monday) : -2;
    }

    public int holder(int n, int monday) {
        return told.isName(n) && life.hasGone(monday) ? life.holderThen(n, monday) : -2;
    }

    public int bearers(int n) {
        if (!told.isName(n)) {
            return NONE;
        }
        int found = 0;
        for (int s = 0; s < told.souls; s++) {
            if (life.timesCalled(s, n) > 0) {
                found++;
            }
        }
        return found;
    }

    public int howLong(int s, int n) {
        return told.isSoul(s) && told.isName(n) ? life.timesCalled(s, n) : NONE;
    }

    public int wishes() {
        return wishing.findMondays();
    }

    public int swaps() {
        return wishing.findSwaps();
    }

    public int partner(int s) {
        return told.isSoul(s) ? wishing.partnerOf(s) : NONE;
    }

    public int bidder(int n) {
        return told.isName(n) ? market.findBidder(n) : NONE;
    }

    public int bid(int n) {
        return told.isName(n) && market.findBidder(n) != NONE ? market.secondBid : NONE;
    }

    public int must(int monday) {
        if (monday < 0 || monday >= ALL_MONDAYS) {
            return NONE;
        }
        int free = life.freeNames();
        for (int s = 0; s < told.souls; s++) {
            if (life.nameOf[s] != NONE && told.old[s] != NONE && told.old[s] <= monday) {
                free |= 1 << life.nameOf[s];
            }
        }
        return free;
    }

    public int ledger() {
        int bytes = tape.length;
        tape.length = 0;
        return isLedger(bytes) ? soulsInLedger(bytes) : NONE;
    }

    public int votes(int set) {
        if (set < 0 || set >= 1 << told.souls) {
            return NONE;
        }
        return life.hasVotes(set) ? 1 : 0;
    }

    public int party() {
        int best = NONE;
        for (int set = 0; set < 1 << told.souls; set++) {
            boolean allLive = (set & ~life.living) == 0;
            boolean fewer = best == NONE || Integer.bitCount(set) < Integer.bitCount(best);
            if (allLive && fewer && life.hasVotes(set)) {
                best = set;
            }
        }
        return best;
    }

    public int least(int s) {
        return told.isSoul(s) && life.doesWait(s) ? market.findLeast(s) : NONE;
    }

    public int cheapest() {
        return market.cheapestName;
    }

    public int feasts(int n, int mondays) {
        if (!told.isName(n) || mondays < 1 || mondays > 99) {
            return NONE;
        }
        int last = Math.min(life.monday + mondays, ALL_MONDAYS);
        int fallen = 0;
        for (int m = life.monday; m < last; m++) {
            if (told.isFeast(n, m)) {
                fallen++;
            }
        }
        return fallen;
    }

    public int queue(int k) {
        return k >= 0 && k < life.waitCount ? life.waiting[k] : NONE;
    }

    public int drawn(int n, int seed) {
        if (n < 1 || n > MOST_AT_ONCE || told.souls == 0 || told.names == 0) {
            return NONE;
        }
        if (life.monday >= ALL_MONDAYS) {
            return 0;
        }
        undos.keep(life);
        draw.seed = seed;
        return life.liveDrawn(n, draw);
    }

    public int odds(int s, int n, int seed) {
        if (!told.isSoul(s) || told.names == 0 || n < 1 || n > 30) {
            return NONE;
        }
        int calledSo = 0;
        for (int i = 0; i < n; i++) {
            spare.copyFrom(life);
            draw.seed = seed + i;
            spare.liveDrawn(20, draw);
            if (spare.nameOf[s] != NONE) {
                calledSo++;
            }
        }
        return calledSo;
    }

    public int roll(int lives) {
        if (lives < 0 || lives > 1) {
            return -1000;
        }
        boolean good = lines.read();
        tape.length = 0;
        latestFault = tape.faultKind;
        if (!good) {
            return -2 - tape.faultPlace;
        }
        if (lives == 1) {
            undos.keep(life);
            return lines.judge(life);
        }
        spare.copyFrom(life);
        return lines.judge(spare);
    }

    public int rolled(int what) {
        if (!lines.judged) {
            return NONE;
        }
        switch (what) {
            case 0: return lines.reason;
            case 1: return lines.goodLines;
            case 2: return lines.mondayThen;
            case 3: return lines.waitingThen;
            default: return NONE;
        }
    }

    public int sentence() {
        boolean good = newSaying.read();
        tape.length = 0;
        latestFault = tape.faultKind;
        if (!good) {
            return -1 - tape.faultPlace;
        }
        saying.copyFrom(newSaying);
        return saying.ones;
    }

    public int said(int k) {
        if (saying.ones == 0) {
            return NONE;
        }
        int souls = saying.soulsIn(life);
        return k == NONE ? Integer.bitCount(souls) : placeOfBit(souls, k);
    }

    public boolean image(int k) {
        if (k < 0 || k >= IMAGES) {
            return false;
        }
        images[k].told.copyFrom(told);
        images[k].life.copyFrom(life);
        images[k].saying.copyFrom(saying);
        images[k].isKept = true;
        return true;
    }

    public boolean restore(int k) {
        if (k < 0 || k >= IMAGES || !images[k].isKept) {
            return false;
        }
        told.copyFrom(images[k].told);
        life.copyFrom(images[k].life);
        saying.copyFrom(images[k].saying);
        undos.forget();
        return true;
    }

    public int count(int what) {
        switch (what) {
            case 0: return told.names;
            case 1: return told.souls;
            case 2: return tape.length;
            default: return NONE;
        }
    }

    private boolean areTwo(int s, int t) {
        return told.isSoul(s) && told.isSoul(t) && s != t;
    }

    private int attempt(int sort, int s, int t) {
        int why = life.whyNot(sort, s, t);
        if (why == 0) {
            undos.keep(life);
            life.act(sort, s, t);
        }
        return why;
    }

    private boolean isLedger(int bytes) {
        if (bytes < 1 || bytes > life.monday) {
            return false;
        }
        for (int m = 0; m < bytes; m++) {
            int row = tape.byteAt(m);
            if (row != 255 && !told.isName(row)) {
                return false;
            }
        }
        return true;
    }

    private int soulsInLedger(int bytes) {
        int souls = 0;
        for (int s = 0; s < told.souls; s++) {
            boolean fits = true;
            for (int m = 0; m < bytes && fits; m++) {
                int row = tape.byteAt(m);
                fits = life.calledThen(s, m) == (row == 255 ? NONE : row);
            }
            if (fits) {
                souls |= 1 << s;
            }
        }
        return souls;
    }

    private static int sum(int[] row, int length) {
        int all = 0;
        for (int i = 0; i < length && i < row.length; i++) {
            all += row[i];
        }
        return all;
    }

    private static int placeOfBit(int bits, int k) {
        int ahead = 0;
        for (int i = 0; i < MOST_SOULS; i++) {
            if (hasBit(bits, i)) {
                if (ahead == k) {
                    return i;
                }
                ahead++;
            }
        }
        return NONE;
    }

    private static boolean hasBit(int bits, int i) {
        return (bits >> i & 1) == 1;
    }

    private static void copyRow(int[] from, int[] to) {
        System.arraycopy(from, 0, to, 0, Math.min(from.length, to.length));
    }

    private static void copyRow(long[] from, long[] to) {
        System.arraycopy(from, 0, to, 0, Math.min(from.length, to.length));
    }

    /** The tape, and its bytes read as TOKENS: one TOKEN is always ahead of whoever reads. */
    private static final class Tape {
        private static final int MOST_BYTES = 940;
        private static final int LONGEST_WORD = 7;
        private static final int LONGEST_NUMBER = 3;
        // A blank ends each one, the last one too.
        private static final String TOWN_WORDS = "name debt feast soul called wish worth old ";
        private static final String ROLL_WORDS = "takes swaps sells dies hangs flees pays monday ";
        private static final String SENTENCE_WORDS = "or and not alive waits fled glad purse owes feasts number ";
        private static final int MOST_OWN_WORDS = 27;

        private static final int THE_END = 0;
        private static final int A_WORD = 1;
        private static final int A_NUMBER = 2;
        private static final int A_SIGN = 3;
        private static final int NO_TOKEN = 4;

        private static final int CANT_COME = 1;
        private static final int NOT_AS_TOLD = 2;
        private static final int WRONG_WORD = 3;
        private static final int ONE_TOO_MANY = 4;

        private final byte[] bytes = new byte[MOST_BYTES];
        private final long[] ownWords = new long[MOST_OWN_WORDS];
        private int ownCount;
        private int length;
        private int most;
        private int at;

        private int kind;
        private int place;
        private long word;
        private int number;
        private int sign;

        private int got;
        private int faultKind;
        private int faultPlace;

        private Tape() {
            keepOwn(TOWN_WORDS);
            keepOwn(ROLL_WORDS);
            keepOwn(SENTENCE_WORDS);
        }

        private void keepOwn(String words) {
            long packed = 0;
            for (int i = 0; i < words.length() && ownCount < MOST_OWN_WORDS; i++) {
                if (words.charAt(i) == ' ') {
                    ownWords[ownCount] = packed;
                    ownCount++;
                    packed = 0;
                } else {
                    packed = packed << 8 | words.charAt(i);
                }
            }
        }

        private boolean hasRoom(int more) {
            return length + more <= MOST_BYTES;
        }

        private void put(int four) {
            for (int shift = 24; shift >= 0 && length < MOST_BYTES; shift -= 8) {
                bytes[length] = (byte) (four >>> shift);
                length++;
            }
        }

        private int byteAt(int i) {
            return i >= 0 && i < MOST_BYTES ? bytes[i] & 255 : 0;
        }

        private void startText(int mostBytes) {
            most = mostBytes;
            at = 0;
            faultKind = 0;
            faultPlace = 0;
            advance();
        }

        private void advance() {
            while (at < length && (bytes[at] == ' ' || bytes[at] == '\n')) {
                at++;
            }
            if (at >= length || at >= most) {
                // A text that is too long is broken at its limit, even if only blanks lie behind it.
                kind = length > most ? NO_TOKEN : THE_END;
                place = length > most ? most : length;
                return;
            }
            place = at;
            sign = bytes[at];
            word = 0;
            number = 0;
            int letters = 0;
            int digits = 0;
            for (; at < length; at++) {
                int c = bytes[at];
                if (c >= 'a' && c <= 'z') {
                    letters++;
                    word = word << 8 | c;
                } else if (c >= '0' && c <= '9') {
                    digits++;
                    number = number * 10 + c - '0';
                } else {
                    break;
                }
            }
            if (letters + digits == 0) {
                at++;
                kind = sign == ';' || sign == '(' || sign == ')' || sign >= '<' && sign <= '>' ? A_SIGN : NO_TOKEN;
            } else if (digits == 0) {
                kind = letters <= LONGEST_WORD ? A_WORD : NO_TOKEN;
            } else {
                kind = letters == 0 && digits <= LONGEST_NUMBER ? A_NUMBER : NO_TOKEN;
            }
        }

        private boolean isWord(String text) {
            long packed = 0;
            for (int i = 0; i < text.length(); i++) {
                packed = packed << 8 | text.charAt(i);
            }
            return kind == A_WORD && packed == word;
        }

        private boolean isSign(char c) {
            return kind == A_SIGN && sign == c;
        }

        /** The document's own WORDS are never NAMES or SOULS, so they can't come where one of these must. */
        private boolean canBeNameOrSoul() {
            if (kind != A_WORD) {
                return false;
            }
            for (int i = 0; i < ownWords.length; i++) {
                if (ownWords[i] == word) {
                    return false;
                }
            }
            return true;
        }

        /** Keeps a FAULT at the TOKEN ahead; false, so that readers can answer with it. */
        private boolean refuse(int faultOfKind) {
            faultKind = faultOfKind;
            faultPlace = place;
            return false;
        }

        private boolean pass() {
            advance();
            return true;
        }

        private boolean passSign(char c) {
            return isSign(c) ? pass() : refuse(CANT_COME);
        }

        private boolean passNumber(int lowest, int highest) {
            if (kind != A_NUMBER) {
                return refuse(CANT_COME);
            }
            if (number < lowest || number > highest) {
                return refuse(NOT_AS_TOLD);
            }
            got = number;
            advance();
            return true;
        }

        /** Passes a WORD that a search has found among NAMES or SOULS, or not. */
        private boolean passKnown(int found) {
            if (!canBeNameOrSoul()) {
                return refuse(CANT_COME);
            }
            if (found == NONE) {
                return refuse(WRONG_WORD);
            }
            got = found;
            advance();
            return true;
        }
    }

    /** What a TOWN's text told, and no call but a new TOWN changes. */
    private static final class Told {
        private int names;
        private int souls;
        private final long[] nameWord = new long[MOST_NAMES];
        private final int[] price = new int[MOST_NAMES];
        private final int[] firstDebt = new int[MOST_NAMES];
        private final int[] every = new int[MOST_NAMES];
        private final long[] soulWord = new long[MOST_SOULS];
        private final int[] firstPurse = new int[MOST_SOULS];
        private final int[] firstName = new int[MOST_SOULS];
        private final int[] wish = new int[MOST_SOULS];
        private final int[] old = new int[MOST_SOULS];
        private final int[] worthRow = new int[MOST_SOULS * MOST_NAMES];

        private void clear() {
            names = 0;
            souls = 0;
        }

        private void copyFrom(Told other) {
            names = other.names;
            souls = other.souls;
            copyRow(other.nameWord, nameWord);
            copyRow(other.price, price);
            copyRow(other.firstDebt, firstDebt);
            copyRow(other.every, every);
            copyRow(other.soulWord, soulWord);
            copyRow(other.firstPurse, firstPurse);
            copyRow(other.firstName, firstName);
            copyRow(other.wish, wish);
            copyRow(other.old, old);
            copyRow(other.worthRow, worthRow);
        }

        private void addName(long word, int itsPrice) {
            if (names < MOST_NAMES) {
                nameWord[names] = word;
                price[names] = itsPrice;
                firstDebt[names] = NONE;
                every[names] = NONE;
                names++;
            }
        }

        private void addSoul(long word, int purse) {
            if (souls < MOST_SOULS) {
                soulWord[souls] = word;
                firstPurse[souls] = purse;
                firstName[souls] = NONE;
                wish[souls] = NONE;
                old[souls] = NONE;
                for (int n = 0; n < MOST_NAMES; n++) {
                    worthRow[souls * MOST_NAMES + n] = 0;
                }
                souls++;
            }
        }

        private boolean isName(int n) {
            return n >= 0 && n < names;
        }

        private boolean isSoul(int s) {
            return s >= 0 && s < souls;
        }

        private int findName(long word) {
            return find(word, nameWord, names);
        }

        private int findSoul(long word) {
            return find(word, soulWord, souls);
        }

        private static int find(long word, long[] row, int length) {
            for (int i = 0; i < length && i < row.length; i++) {
                if (row[i] == word) {
                    return i;
                }
            }
            return NONE;
        }

        private boolean isBorneAtFirst(int n) {
            for (int s = 0; s < souls; s++) {
                if (firstName[s] == n) {
                    return true;
                }
            }
            return false;
        }

        private int worthOf(int s, int n) {
            return isSoul(s) && isName(n) ? worthRow[s * MOST_NAMES + n] : 0;
        }

        private boolean isFeast(int n, int monday) {
            return n >= 0 && n < names && every[n] > 0 && monday % every[n] == 0;
        }
    }

    /** Reads the tape as a TOWN into a draft, so that a FAULT leaves the TOWN that stands. */
    private static final class TownReader {
        private static final int MOST_BYTES = 900;

        private final Tape tape;
        private final Told draft;
        private int lineCount;

        private TownReader(Tape tape, Told draft) {
            this.tape = tape;
            this.draft = draft;
        }

        private boolean read() {
            draft.clear();
            tape.startText(MOST_BYTES);
            for (lineCount = 0; lineCount < MOST_BYTES && tape.kind != Tape.THE_END; lineCount++) {
                if (!readLine() || !tape.passSign(';')) {
                    return false;
                }
            }
            return true;
        }

        private boolean readLine() {
            if (tape.isWord("name")) {
                return readNameLine();
            }
            if (tape.isWord("debt")) {
                return tape.pass() && readOfName(draft.firstDebt, 0, 99);
            }
            if (tape.isWord("feast")) {
                return tape.pass() && readOfName(draft.every, 1, 9);
            }
            if (tape.isWord("soul")) {
                return readSoulLine();
            }
            if (tape.isWord("wish")) {
                return tape.pass() && readWish();
            }
            if (tape.isWord("worth")) {
                return tape.pass() && readWorth();
            }
            if (tape.isWord("old")) {
                return tape.pass() && readOld();
            }
            return tape.refuse(Tape.CANT_COME);
        }

        private boolean readNameLine() {
            if (draft.names >= MOST_NAMES) {
                return tape.refuse(Tape.ONE_TOO_MANY);
            }
            tape.advance();
            long word = tape.word;
            if (!passNewWord() || !tape.passNumber(0, 99)) {
                return false;
            }
            draft.addName(word, tape.got);
            return true;
        }

        private boolean readSoulLine() {
            if (draft.souls >= MOST_SOULS) {
                return tape.refuse(Tape.ONE_TOO_MANY);
            }
            tape.advance();
            long word = tape.word;
            if (!passNewWord() || !tape.passNumber(0, 999)) {
                return false;
            }
            draft.addSoul(word, tape.got);
            if (!tape.isWord("called")) {
                return true;
            }
            tape.advance();
            return readFirstName(draft.souls - 1);
        }

        private boolean readFirstName(int s) {
            int n = draft.findName(tape.word);
            if (tape.kind == Tape.A_WORD && n != NONE && draft.isBorneAtFirst(n)) {
                return tape.refuse(Tape.WRONG_WORD);
            }
            if (!tape.passKnown(n) || !draft.isSoul(s)) {
                return false;
            }
            draft.firstName[s] = tape.got;
            return true;
        }

        private boolean readOfName(int[] row, int lowest, int highest) {
            if (!passOnce(draft.findName(tape.word), row)) {
                return false;
            }
            int n = tape.got;
            if (!tape.passNumber(lowest, highest) || n < 0 || n >= row.length) {
                return false;
            }
            row[n] = tape.got;
            return true;
        }

        private boolean readWish() {
            if (!passOnce(draft.findSoul(tape.word), draft.wish)) {
                return false;
            }
            int s = tape.got;
            if (!tape.passKnown(draft.findName(tape.word)) || !draft.isSoul(s)) {
                return false;
            }
            draft.wish[s] = tape.got;
            return true;
        }

        private boolean readOld() {
            if (!passOnce(draft.findSoul(tape.word), draft.old)) {
                return false;
            }
            int s = tape.got;
            if (!tape.passNumber(0, ALL_MONDAYS - 1) || !draft.isSoul(s)) {
                return false;
            }
            draft.old[s] = tape.got;
            return true;
        }

        private boolean readWorth() {
            if (!tape.passKnown(draft.findSoul(tape.word))) {
                return false;
            }
            int s = tape.got;
            if (tape.kind == Tape.A_WORD && draft.worthOf(s, draft.findName(tape.word)) != 0) {
                return tape.refuse(Tape.WRONG_WORD);
            }
            if (!tape.passKnown(draft.findName(tape.word))) {
                return false;
            }
            int n = tape.got;
            if (!tape.passNumber(1, 99) || !draft.isSoul(s) || !draft.isName(n)) {
                return false;
            }
            draft.worthRow[s * MOST_NAMES + n] = tape.got;
            return true;
        }

        private boolean passOnce(int found, int[] row) {
            boolean isKnown = tape.kind == Tape.A_WORD && found >= 0 && found < row.length;
            if (isKnown && row[found] != NONE) {
                return tape.refuse(Tape.WRONG_WORD);
            }
            return tape.passKnown(found);
        }

        private boolean passNewWord() {
            if (!tape.canBeNameOrSoul()) {
                return tape.refuse(Tape.CANT_COME);
            }
            boolean isTold = draft.findName(tape.word) != NONE || draft.findSoul(tape.word) != NONE;
            return isTold ? tape.refuse(Tape.WRONG_WORD) : tape.pass();
        }
    }

    /** The draws by a seed. */
    private static final class Draw {
        private int seed;

        private int next(int of) {
            seed = seed * 1103515245 + 12345;
            return of > 0 ? (seed >>> 8) % of : 0;
        }
    }

    /** All that is so in a TOWN, and the acts that change it. */
    private static final class Life {
        private static final int HANGED_MONDAYS = 12;
        private static final int FEAST_COST = 2;
        private static final int ALIKE = 9;

        private final Told told;
        private int monday;
        private int living;
        private int changed;
        private int fugitives;
        private int sour;
        private int waitCount;
        private final int[] bearer = new int[MOST_NAMES];
        private final int[] debt = new int[MOST_NAMES];
        private final int[] hangedTill = new int[MOST_NAMES];
        private final int[] nameOf = new int[MOST_SOULS];
        private final int[] purse = new int[MOST_SOULS];
        private final int[] feasted = new int[MOST_SOULS];
        private final int[] waiting = new int[MOST_SOULS];
        // One row of four bits a SOUL for each MONDAY: its NAME and 1, or 0.
        private final long[] past = new long[ALL_MONDAYS];

        private Life(Told told) {
            this.told = told;
        }

        private void begin() {
            monday = 0;
            living = (1 << told.souls) - 1;
            changed = 0;
            fugitives = 0;
            sour = 0;
            waitCount = 0;
            for (int n = 0; n < told.names; n++) {
                bearer[n] = NONE;
                debt[n] = Math.max(0, told.firstDebt[n]);
                hangedTill[n] = 0;
            }
            for (int s = 0; s < told.souls; s++) {
                nameOf[s] = NONE;
                purse[s] = told.firstPurse[s];
                feasted[s] = 0;
                if (told.isName(told.firstName[s])) {
                    give(s, told.firstName[s]);
                } else {
                    joinQueue(s);
                }
            }
        }

        private void copyFrom(Life other) {
            monday = other.monday;
            living = other.living;
            changed = other.changed;
            fugitives = other.fugitives;
            sour = other.sour;
            waitCount = other.waitCount;
            copyRow(other.bearer, bearer);
            copyRow(other.debt, debt);
            copyRow(other.hangedTill, hangedTill);
            copyRow(other.nameOf, nameOf);
            copyRow(other.purse, purse);
            copyRow(other.feasted, feasted);
            copyRow(other.waiting, waiting);
            copyRow(other.past, past);
        }

        private boolean isAlive(int s) {
            return hasBit(living, s);
        }

        private boolean hasChanged(int s) {
            return hasBit(changed, s);
        }

        private boolean hasFled(int s) {
            return hasBit(fugitives, s);
        }

        private boolean isSour(int n) {
            return hasBit(sour, n);
        }

        private boolean doesWait(int s) {
            return isAlive(s) && nameOf[s] == NONE;
        }

        private int waitAhead(int s) {
            for (int k = 0; k < waitCount; k++) {
                if (waiting[k] == s) {
                    return k;
                }
            }
            return NONE;
        }

        private int hangedYet(int n) {
            return hangedTill[n] > monday ? hangedTill[n] - monday : 0;
        }

        private int cost(int n) {
            return hangedYet(n) > 0 ? told.price[n] / 2 : told.price[n];
        }

        private int owed(int s) {
            int n = nameOf[s];
            return told.isName(n) ? debt[n] : 0;
        }

        private int freeNames() {
            int free = 0;
            for (int n = 0; n < told.names; n++) {
                if (bearer[n] == NONE) {
                    free |= 1 << n;
                }
            }
            return free;
        }

        private boolean hasVotes(int set) {
            int all = 0;
            int given = 0;
            boolean allWhoWait = true;
            for (int s = 0; s < told.souls; s++) {
                if (doesWait(s)) {
                    allWhoWait = allWhoWait && hasBit(set, s);
                } else if (isAlive(s)) {
                    all++;
                    given += set >> s & 1;
                }
            }
            if (waitCount > 0) {
                all++;
                given += allWhoWait ? 1 : 0;
            }
            return 2 * given > all;
        }

        /** The least reason against an act, as the document numbers them; 0 without one. */
        private int whyNot(int sort, int s, int t) {
            switch (sort) {
                case TAKE: return whyNotTake(s, t);
                case SWAP: return whyNotSwap(s, t);
                case SELL: return whyNotSell(s, t);
                case FLEE: return whyNotFlee(s);
                case PAY: return whyNotPay(s, t);
                case MONDAYS: return ALL_MONDAYS - monday < t ? 1 : 0;
                default: return isAlive(s) ? 0 : 1;
            }
        }

        private void act(int sort, int s, int t) {
            switch (sort) {
                case TAKE: buyFree(s, t); break;
                case SWAP: exchange(s, t); break;
                case SELL: handOver(s, t); break;
                case FLEE: runAway(s); break;
                case PAY: payOff(s, t); break;
                case MONDAYS: passMondays(t); break;
                default: perish(s, sort == HANG); break;
            }
        }

        private int whyNotTake(int s, int n) {
            if (!isAlive(s)) {
                return 1;
            }
            if (nameOf[s] != NONE) {
                return 2;
            }
            if (bearer[n] != NONE) {
                return 3;
            }
            if (isSour(n)) {
                return 4;
            }
            if (waitAhead(s) > 0) {
                return 5;
            }
            return purse[s] < cost(n) ? 6 : 0;
        }

        private int whyNotSwap(int s, int t) {
            if (s == t) {
                return ALIKE;
            }
            if (!isAlive(s) || !isAlive(t)) {
                return 1;
            }
            if (nameOf[s] == NONE || nameOf[t] == NONE) {
                return 2;
            }
            return hasChanged(s) || hasChanged(t) ? 3 : 0;
        }

        private int whyNotSell(int s, int t) {
            if (s == t) {
                return ALIKE;
            }
            if (!isAlive(s) || !isAlive(t)) {
                return 1;
            }
            if (nameOf[s] == NONE || nameOf[t] != NONE) {
                return 2;
            }
            if (hasChanged(s) || hasChanged(t)) {
                return 3;
            }
            return purse[t] < told.price[nameOf[s]] ? 4 : 0;
        }

        private int whyNotFlee(int s) {
            if (!isAlive(s)) {
                return 1;
            }
            if (nameOf[s] == NONE) {
                return 2;
            }
            return hasChanged(s) ? 3 : 0;
        }

        private int whyNotPay(int s, int n) {
            if (!isAlive(s)) {
                return 1;
            }
            if (nameOf[s] == NONE) {
                return 2;
            }
            if (n > owed(s)) {
                return 3;
            }
            return purse[s] < n ? 4 : 0;
        }

        private void buyFree(int s, int n) {
            purse[s] -= cost(n);
            leaveQueue(s);
            give(s, n);
            changed |= 1 << s;
        }

        private void exchange(int s, int t) {
            int n = nameOf[s];
            give(s, nameOf[t]);
            give(t, n);
            changed |= 1 << s | 1 << t;
        }

        private void handOver(int s, int t) {
            int n = nameOf[s];
            purse[t] -= told.price[n];
            purse[s] += told.price[n];
            nameOf[s] = NONE;
            leaveQueue(t);
            give(t, n);
            joinQueue(s);
            changed |= 1 << s | 1 << t;
        }

        private void perish(int s, boolean hangs) {
            int n = nameOf[s];
            living &= ~(1 << s);
            leaveQueue(s);
            if (n != NONE) {
                loseName(s);
                if (hangs) {
                    hangedTill[n] = monday + HANGED_MONDAYS;
                }
            }
        }

        private void runAway(int s) {
            sour |= 1 << nameOf[s];
            loseName(s);
            joinQueue(s);
            changed |= 1 << s;
            fugitives |= 1 << s;
        }

        private void payOff(int s, int n) {
            debt[nameOf[s]] -= n;
            purse[s] -= n;
        }

        private int drawLot(int n, Draw draw) {
            int k = draw.next(waitCount);
            if (k >= waitCount) {
                return NONE;
            }
            int s = waiting[k];
            leaveQueue(s);
            give(s, n);
            sour &= ~(1 << n);
            changed |= 1 << s;
            return s;
        }

        private void give(int s, int n) {
            nameOf[s] = n;
            bearer[n] = s;
        }

        private void loseName(int s) {
            bearer[nameOf[s]] = NONE;
            nameOf[s] = NONE;
        }

        private void joinQueue(int s) {
            if (waitCount < MOST_SOULS) {
                waiting[waitCount] = s;
                waitCount++;
            }
        }

        private void leaveQueue(int s) {
            int k = waitAhead(s);
            if (k != NONE) {
                System.arraycopy(waiting, k + 1, waiting, k, waitCount - k - 1);
                waitCount--;
            }
        }

        private void passMondays(int n) {
            for (int i = 0; i < n; i++) {
                endMonday();
            }
        }

        private void endMonday() {
            if (monday >= ALL_MONDAYS) {
                return;
            }
            long row = 0;
            for (int s = 0; s < told.souls; s++) {
                row |= (long) (nameOf[s] + 1) << 4 * s;
            }
            past[monday] = row;
            for (int n = 0; n < told.names; n++) {
                if (bearer[n] != NONE && told.isFeast(n, monday)) {
                    feast(bearer[n]);
                }
            }
            monday++;
            changed = 0;
        }

        private void feast(int s) {
            purse[s] = purse[s] > FEAST_COST ? purse[s] - FEAST_COST : 0;
            feasted[s]++;
        }

        private int liveDrawn(int mondays, Draw draw) {
            int went = 0;
            while (went < mondays && monday < ALL_MONDAYS) {
                for (int s = 0; s < told.souls; s++) {
                    if (isAlive(s)) {
                        actByDraw(s, draw);
                    }
                }
                endMonday();
                went++;
            }
            return went;
        }

        private void actByDraw(int s, Draw draw) {
            switch (draw.next(8)) {
                case 0: actIfCan(SWAP, s, draw.next(told.souls)); break;
                case 1: actIfCan(TAKE, s, draw.next(told.names)); break;
                case 2: actIfCan(FLEE, s, 0); break;
                case 3: dieByDraw(s, draw); break;
                default: break;
            }
        }

        private void dieByDraw(int s, Draw draw) {
            if (draw.next(5) == 0) {
                perish(s, false);
            }
        }

        private void actIfCan(int sort, int s, int t) {
            if (whyNot(sort, s, t) == 0) {
                act(sort, s, t);
            }
        }

        private boolean hasGone(int m) {
            return m >= 0 && m < monday;
        }

        private int calledThen(int s, int m) {
            return hasGone(m) ? (int) (past[m] >>> 4 * s & 15) - 1 : NONE;
        }

        private int holderThen(int n, int m) {
            for (int s = 0; s < told.souls; s++) {
                if (calledThen(s, m) == n) {
                    return s;
                }
            }
            return NONE;
        }

        private int timesCalled(int s, int n) {
            int times = 0;
            for (int m = 0; m < monday; m++) {
                if (calledThen(s, m) == n) {
                    times++;
                }
            }
            return times;
        }
    }

    /** What was so ahead of each of the latest acts. */
    private static final class Undo {
        private static final int MOST = 4;

        private final Life[] kept = new Life[MOST];
        private int next;
        private int size;

        private Undo(Told told) {
            for (int i = 0; i < MOST; i++) {
                kept[i] = new Life(told);
            }
        }

        private void keep(Life life) {
            kept[next].copyFrom(life);
            next = (next + 1) % MOST;
            size = Math.min(size + 1, MOST);
        }

        private boolean takeBack(Life life) {
            if (size == 0) {
                return false;
            }
            next = (next + MOST - 1) % MOST;
            size--;
            life.copyFrom(kept[next]);
            return true;
        }

        private void forget() {
            size = 0;
        }
    }

    /** All that image() keeps in one place. */
    private static final class Image {
        private final Told told = new Told();
        private final Life life;
        private final Sentence saying;
        private boolean isKept;

        private Image(Tape tape) {
            life = new Life(told);
            saying = new Sentence(tape, told);
        }
    }

    /** The tape as a ROLL, and what came of the latest one. */
    private static final class Roll {
        private static final int MOST_BYTES = 400;
        private static final int MOST_LINES = 40;

        private final Tape tape;
        private final Told told;
        private final int[] sort = new int[MOST_LINES];
        private final int[] who = new int[MOST_LINES];
        private final int[] whom = new int[MOST_LINES];
        private int lineCount;

        private boolean judged;
        private int reason;
        private int goodLines;
        private int mondayThen;
        private int waitingThen;

        private Roll(Tape tape, Told told) {
            this.tape = tape;
            this.told = told;
        }

        private boolean read() {
            lineCount = 0;
            tape.startText(MOST_BYTES);
            for (int i = 0; i <= MOST_LINES && tape.kind != Tape.THE_END; i++) {
                if (!readLine() || !tape.passSign(';')) {
                    return false;
                }
            }
            return true;
        }

        private boolean readLine() {
            boolean isMonday = tape.isWord("monday");
            int s = told.findSoul(tape.word);
            if (tape.kind != Tape.A_WORD || !isMonday && s == NONE) {
                return tape.passKnown(s);
            }
            if (lineCount >= MOST_LINES) {
                return tape.refuse(Tape.ONE_TOO_MANY);
            }
            tape.advance();
            who[lineCount] = s;
            tape.got = 0;
            if (!(isMonday ? setSort(MONDAYS) && tape.passNumber(1, MOST_AT_ONCE) : readDeed())) {
                return false;
            }
            whom[lineCount] = tape.got;
            lineCount++;
            return true;
        }

        private boolean readDeed() {
            if (tape.isWord("takes")) {
                return setSort(TAKE) && tape.pass() && tape.passKnown(told.findName(tape.word));
            }
            if (tape.isWord("swaps")) {
                return setSort(SWAP) && tape.pass() && tape.passKnown(told.findSoul(tape.word));
            }
            if (tape.isWord("sells")) {
                return setSort(SELL) && tape.pass() && tape.passKnown(told.findSoul(tape.word));
            }
            if (tape.isWord("dies")) {
                return setSort(DIE) && tape.pass();
            }
            if (tape.isWord("hangs")) {
                return setSort(HANG) && tape.pass();
            }
            if (tape.isWord("flees")) {
                return setSort(FLEE) && tape.pass();
            }
            if (tape.isWord("pays")) {
                return setSort(PAY) && tape.pass() && tape.passNumber(1, 99);
            }
            return tape.refuse(Tape.CANT_COME);
        }

        private boolean setSort(int itsSort) {
            sort[lineCount] = itsSort;
            return true;
        }

        /** Lives the LINES up to the one that is WRONG, which is the answer. */
        private int judge(Life life) {
            judged = true;
            reason = 0;
            goodLines = 0;
            for (int i = 0; i < lineCount && reason == 0; i++) {
                int why = life.whyNot(sort[i], who[i], whom[i]);
                if (why != 0) {
                    reason = why + 10 * (sort[i] == HANG ? DIE : sort[i]);
                } else {
                    life.act(sort[i], who[i], whom[i]);
                    goodLines++;
                }
            }
            mondayThen = life.monday;
            waitingThen = life.waitCount;
            return reason == 0 ? NONE : goodLines;
        }
    }

    /** A SENTENCE, kept as steps that each put or join sets of SOULS (bits), the joined ones ahead of what joins them. */
    private static final class Sentence {
        private static final int MOST_BYTES = 200;
        private static final int MOST_ONES = 20;
        private static final int MOST_WITHIN = 8;
        private static final int MOST_STEPS = 2 * MOST_ONES;

        private static final int NOT = 0;
        private static final int AND = 1;
        private static final int OR = 2;
        private static final int ALIVE = 3;
        private static final int WAITS = 4;
        private static final int CALLED = 5;
        private static final int FLED = 6;
        private static final int GLAD = 7;
        private static final int PURSE = 8;
        private static final int OWES = 9;
        private static final int FEASTS = 10;
        private static final int NUMBER = 11;

        private final Tape tape;
        private final Told told;
        private final int[] step = new int[MOST_STEPS];
        private final int[] sign = new int[MOST_STEPS];
        private final int[] value = new int[MOST_STEPS];
        private final int[] sets = new int[MOST_STEPS];
        private int steps;
        private int ones;

        private Sentence(Tape tape, Told told) {
            this.tape = tape;
            this.told = told;
        }

        private void copyFrom(Sentence other) {
            steps = other.steps;
            ones = other.ones;
            copyRow(other.step, step);
            copyRow(other.sign, sign);
            copyRow(other.value, value);
        }

        private boolean read() {
            steps = 0;
            ones = 0;
            tape.startText(MOST_BYTES);
            if (!readCond(1)) {
                return false;
            }
            return tape.kind == Tape.THE_END || tape.refuse(Tape.CANT_COME);
        }

        private boolean readCond(int depth) {
            boolean good = readAll(depth);
            for (int i = 0; i < MOST_ONES && good && tape.isWord("or"); i++) {
                tape.advance();
                good = readAll(depth) && addStep(OR, 0, 0);
            }
            return good;
        }

        private boolean readAll(int depth) {
            boolean good = readOne(depth);
            for (int i = 0; i < MOST_ONES && good && tape.isWord("and"); i++) {
                tape.advance();
                good = readOne(depth) && addStep(AND, 0, 0);
            }
            return good;
        }

        private boolean readOne(int depth) {
            int leaf = leafAhead();
            boolean isNot = tape.isWord("not");
            boolean isBracket = tape.isSign('(');
            if (leaf == NONE && !isNot && !isBracket) {
                return tape.refuse(Tape.CANT_COME);
            }
            if (ones >= MOST_ONES || depth > MOST_WITHIN) {
                return tape.refuse(Tape.ONE_TOO_MANY);
            }
            ones++;
            tape.advance();
            if (isNot) {
                return readOne(depth + 1) && addStep(NOT, 0, 0);
            }
            if (isBracket) {
                return readCond(depth + 1) && tape.passSign(')');
            }
            return readLeaf(leaf);
        }

        private int leafAhead() {
            if (tape.isWord("alive")) {
                return ALIVE;
            }
            if (tape.isWord("waits")) {
                return WAITS;
            }
            if (tape.isWord("called")) {
                return CALLED;
            }
            if (tape.isWord("fled")) {
                return FLED;
            }
            if (tape.isWord("glad")) {
                return GLAD;
            }
            if (tape.isWord("purse")) {
                return PURSE;
            }
            if (tape.isWord("owes")) {
                return OWES;
            }
            if (tape.isWord("feasts")) {
                return FEASTS;
            }
            return tape.isWord("number") ? NUMBER : NONE;
        }

        private boolean readLeaf(int leaf) {
            if (leaf == CALLED) {
                return tape.passKnown(told.findName(tape.word)) && addStep(CALLED, 0, tape.got);
            }
            if (leaf < PURSE) {
                return addStep(leaf, 0, 0);
            }
            if (!tape.isSign('<') && !tape.isSign('=') && !tape.isSign('>')) {
                return tape.refuse(Tape.CANT_COME);
            }
            int itsSign = tape.sign;
            tape.advance();
            return tape.passNumber(0, 999) && addStep(leaf, itsSign, tape.got);
        }

        private boolean addStep(int itsStep, int itsSign, int itsValue) {
            if (steps >= MOST_STEPS) {
                return tape.refuse(Tape.ONE_TOO_MANY);
            }
            step[steps] = itsStep;
            sign[steps] = itsSign;
            value[steps] = itsValue;
            steps++;
            return true;
        }

        private int soulsIn(Life life) {
            int all = (1 << life.told.souls) - 1;
            int top = 0;
            for (int i = 0; i < steps; i++) {
                if (step[i] == NOT && top > 0) {
                    sets[top - 1] = all & ~sets[top - 1];
                } else if (step[i] == AND && top > 1) {
                    top--;
                    sets[top - 1] &= sets[top];
                } else if (step[i] == OR && top > 1) {
                    top--;
                    sets[top - 1] |= sets[top];
                } else if (step[i] > OR && top < MOST_STEPS) {
                    sets[top] = soulsOfLeaf(i, life);
                    top++;
                }
            }
            return sets[0];
        }

        private int soulsOfLeaf(int i, Life life) {
            int souls = 0;
            for (int s = 0; s < life.told.souls; s++) {
                if (step[i] >= PURSE ? isMeasured(i, life, s) : isSo(i, life, s)) {
                    souls |= 1 << s;
                }
            }
            return souls;
        }

        private boolean isSo(int i, Life life, int s) {
            switch (step[i]) {
                case ALIVE: return life.isAlive(s);
                case WAITS: return life.doesWait(s);
                case CALLED: return life.nameOf[s] == value[i];
                case FLED: return life.hasFled(s);
                default: return life.nameOf[s] != NONE && life.nameOf[s] == life.told.wish[s];
            }
        }

        private boolean isMeasured(int i, Life life, int s) {
            int measure = measureOf(step[i], life, s);
            if (sign[i] == '<') {
                return measure < value[i];
            }
            return sign[i] == '=' ? measure == value[i] : measure > value[i];
        }

        private static int measureOf(int leaf, Life life, int s) {
            switch (leaf) {
                case PURSE: return life.purse[s];
                case OWES: return life.owed(s);
                case FEASTS: return life.feasted[s];
                default: return s;
            }
        }
    }

    /**
     * Swaps that give each living SOUL its wish. Whoever wishes points at whoever is called so: rings and rows come of
     * it. Two of one ring or row need one MONDAY, more of them always two (any order is two turns of mirrors), and each
     * needs a swap fewer than it has SOULS.
     */
    private static final class Wishes {
        private final Told told;
        private final Life life;
        private final int[] pointsAt = new int[MOST_SOULS];
        private final int[] partners = new int[MOST_SOULS];
        private boolean hasPartners;

        private Wishes(Told told, Life life) {
            this.told = told;
            this.life = life;
        }

        private int findMondays() {
            hasPartners = false;
            if (!point()) {
                return NONE;
            }
            int most = 0;
            for (int s = 0; s < told.souls; s++) {
                most = Math.max(most, mondaysFor(s));
            }
            if (most == 1) {
                pair();
            }
            return most;
        }

        private int findSwaps() {
            if (!point()) {
                return NONE;
            }
            int needed = 0;
            for (int s = 0; s < told.souls; s++) {
                if (pointsAt[s] != NONE && !isFirstOfRing(s)) {
                    needed++;
                }
            }
            return needed;
        }

        private int partnerOf(int s) {
            return hasPartners && s >= 0 && s < MOST_SOULS ? partners[s] : NONE;
        }

        /** False, if some wish never comes true. */
        private boolean point() {
            int wished = 0;
            for (int s = 0; s < told.souls; s++) {
                pointsAt[s] = NONE;
                int n = told.wish[s];
                if (life.isAlive(s) && told.isName(n)) {
                    if (life.nameOf[s] == NONE || life.bearer[n] == NONE || hasBit(wished, n)) {
                        return false;
                    }
                    wished |= 1 << n;
                    pointsAt[s] = life.bearer[n];
                }
            }
            return true;
        }

        private int mondaysFor(int s) {
            int t = pointsAt[s];
            if (t == NONE || t == s) {
                return 0;
            }
            return pointsAt[t] == NONE || pointsAt[t] == s ? 1 : 2;
        }

        private void pair() {
            hasPartners = true;
            for (int s = 0; s < MOST_SOULS; s++) {
                partners[s] = NONE;
            }
            for (int s = 0; s < told.souls; s++) {
                int t = pointsAt[s];
                if (t != NONE && t != s) {
                    partners[s] = t;
                    partners[t] = s;
                }
            }
        }

        private boolean isFirstOfRing(int s) {
            int t = pointsAt[s];
            for (int i = 0; i < MOST_SOULS && t > s; i++) {
                t = pointsAt[t];
            }
            return t == s;
        }
    }

    /** BIDDINGS, and the least coin for a NAME. */
    private static final class Market {
        private final Told told;
        private final Life life;
        private int secondBid;
        private int leastCoin;
        private int cheapestName = NONE;

        private Market(Told told, Life life) {
            this.told = told;
            this.life = life;
        }

        private int findBidder(int n) {
            int best = NONE;
            int bestBid = 0;
            secondBid = 0;
            for (int k = 0; k < life.waitCount; k++) {
                int s = life.waiting[k];
                int worth = told.worthOf(s, n);
                if (worth > 0) {
                    int itsBid = Math.min(worth, life.purse[s]);
                    if (best == NONE || itsBid > bestBid) {
                        secondBid = bestBid;
                        bestBid = itsBid;
                        best = s;
                    } else {
                        secondBid = Math.max(secondBid, itsBid);
                    }
                }
            }
            return best;
        }

        private int findLeast(int s) {
            int best = NONE;
            for (int n = 0; n < told.names; n++) {
                int coin = coinFor(s, n);
                if (coin != NONE && (best == NONE || coin < leastCoin)) {
                    leastCoin = coin;
                    best = n;
                }
            }
            if (best == NONE) {
                return NONE;
            }
            cheapestName = best;
            return leastCoin;
        }

        private int coinFor(int s, int n) {
            int seller = life.bearer[n];
            if (seller == NONE) {
                return life.isSour(n) ? NONE : life.cost(n);
            }
            return life.hasChanged(s) || life.hasChanged(seller) ? NONE : told.price[n];
        }
    }
}
