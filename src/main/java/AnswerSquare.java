/** A duchy in which every saying must answer another one. The document tells what each call answers. */
public final class AnswerSquare {
    public static final int BAD = -1, STATE = -2, FULL = -3, NONE = -9;
    public static final int NO = -1000000;

    private static final int MOST_SAYINGS = 8, MOST_PEOPLE = 5, MOST_ITEMS = MOST_SAYINGS + MOST_PEOPLE + 1;
    private static final int MOST_BYTES = 200, MOST_TALK = 30, MOST_UNDONE = 12, MOST_TOLD = 6;
    private static final int LAST_HOUR = 99, LAST_SILENCE = 9;
    private static final int OLD_AT_FIRST = 3, TENTHS = 10;
    private static final int FAULT = -10;

    private final Text text;
    private Duchy told;
    private Duchy spare;
    private final Moment present;
    private final Moment firstImage;
    private final Moment secondImage;
    /** For each saying, the sayings that are told to come ahead of it (bits). */
    private final int[] toldAhead;
    private int toldCount;
    /** What is so many sayings short of the end of a chain (bits); filled by chainLength. */
    private final int[] layers;
    /** In how many orders a set can have come; filled by orders, for the sets within the one that is asked for. */
    private final int[] ways;
    private long traced;

    public AnswerSquare() {
        text = new Text();
        told = new Duchy();
        spare = new Duchy();
        present = new Moment();
        firstImage = new Moment();
        secondImage = new Moment();
        toldAhead = new int[MOST_SAYINGS];
        toldCount = 0;
        layers = new int[MOST_SAYINGS];
        ways = new int[1 << MOST_SAYINGS];
        traced = 0L;
    }

    // ---- the duchy

    public int type(int c) {
        if (c < 0 || c > 255) {
            return BAD;
        }
        return text.put(c) ? text.length : FULL;
    }

    public int clear() {
        int had = text.length;
        text.length = 0;
        return had;
    }

    public int duchy() {
        int items = spare.readFrom(text);
        if (items < 0) {
            return items;
        }
        Duchy before = told;
        told = spare;
        spare = before;
        text.length = 0;
        present.reset();
        firstImage.kept = false;
        secondImage.kept = false;
        tellNothing();
        return items;
    }

    public int saying(int w, int what) {
        if (!told.hasSaying(w)) {
            return BAD;
        }
        switch (what) {
            case 0: return told.isSound(w) ? 1 : 0;
            case 1: return told.worthy[w];
            case 2: return told.answers[w];
            case 3: return told.knowers(w);
            case 4: return present.timesIn(w);
            default: return BAD;
        }
    }

    public int person(int p, int what) {
        if (!told.hasPerson(p)) {
            return BAD;
        }
        switch (what) {
            case 0: return told.knows[p];
            case 1: return told.knows[p] & told.answering(thereNow());
            case 2: return present.timesBy(p);
            default: return BAD;
        }
    }

    public int talk(int i, int what) {
        if (!present.has(i)) {
            return BAD;
        }
        switch (what) {
            case 0: return present.which[i];
            case 1: return present.at[i];
            case 2: return present.by[i];
            case 3: return present.to[i];
            case 4: return present.root[i];
            case 5: return present.far[i];
            case 6: return present.isOpen(i) ? 1 : 0;
            case 7: return present.isThere(i, 0, told.old) ? 1 : 0;
            default: return BAD;
        }
    }

    // ---- what is done

    public int hears(int w) {
        if (!told.hasSaying(w) || !told.isSound(w)) {
            return BAD;
        }
        return present.add(w, NONE, NONE) ? present.size - 1 : FULL;
    }

    public int says(int p, int w) {
        if (!told.hasPerson(p) || !told.hasSaying(w) || told.isSound(w)) {
            return BAD;
        }
        if ((told.knows[p] & 1 << w) == 0) {
            return STATE;
        }
        int answered = present.latestOf(told.answers[w], told.old);
        if (answered == NONE) {
            return STATE;
        }
        return present.add(w, p, answered) ? answered : FULL;
    }

    public int hour() {
        return present.passHour() ? present.clock : STATE;
    }

    public int undo() {
        return present.takeBack() ? present.undoable : STATE;
    }

    public int now(int what) {
        switch (what) {
            case 0: return present.clock;
            case 1: return present.size;
            case 2: return thereNow();
            case 3: return present.openOnes();
            case 4: return present.farthest();
            case 5: return present.lastOpen();
            case 6: return present.firstAnswerers();
            case 7: return hoursToSilence();
            default: return BAD;
        }
    }

    public int worth(int i) {
        if (!present.has(i) || present.root[i] != i) {
            return BAD;
        }
        int sum = 0;
        for (int k = 0; k < present.size && k < MOST_TALK; k++) {
            if (present.root[k] == i) {
                sum += told.worthOf(present.which[k]);
            }
        }
        return sum;
    }

    private int thereNow() {
        return present.there(0, told.old);
    }

    private int hoursToSilence() {
        for (int hours = 0; hours <= LAST_SILENCE; hours++) {
            if (told.answering(present.there(hours, told.old)) == 0) {
                return hours;
            }
        }
        return NONE;
    }

    // ---- what comes to what

    public int chain(int w, int i) {
        if (!told.hasSaying(w) || i < -1) {
            return BAD;
        }
        int startable = told.answering(thereNow());
        int length = chainLength(w, startable);
        if (length == NONE || i == -1) {
            return length;
        }
        return i < length ? chainStep(length, i, startable) : NONE;
    }

    /** Goes from the chain's end back to the first layer of which something can be said at once: that is the fewest. */
    private int chainLength(int w, int startable) {
        int layer = told.sayable & 1 << w;
        for (int left = 0; left < MOST_SAYINGS; left++) {
            layers[left] = layer;
            if ((layer & startable) != 0) {
                return left + 1;
            }
            layer = told.answeredBy(layer) & told.sayable;
        }
        return NONE;
    }

    /** In a fewest chain each saying answers the one just ahead of it: else one of them could be left out. */
    private int chainStep(int length, int i, int startable) {
        int next = startable;
        int step = NONE;
        for (int done = 0; done <= i && done < length && length <= MOST_SAYINGS; done++) {
            step = lowest(next & layers[length - 1 - done]);
            next = told.answering(1 << step);
        }
        return step;
    }

    private static int lowest(int bits) {
        for (int w = 0; w < MOST_SAYINGS; w++) {
            if ((bits & 1 << w) != 0) {
                return w;
            }
        }
        return NONE;
    }

    public int sounds(int set) {
        if (!told.hasAll(set)) {
            return BAD;
        }
        int there = thereNow();
        int fewest = NONE;
        for (int heard = 0; heard < 1 << told.sayings; heard++) {
            if ((heard & ~told.soundBits) == 0 && suffices(there | heard, set)
                    && (fewest == NONE || Integer.bitCount(heard) < Integer.bitCount(fewest))) {
                fewest = heard;
            }
        }
        return fewest;
    }

    public int began(int set) {
        return told.hasAll(set) ? beginnings(set) : BAD;
    }

    private int beginnings(int set) {
        int bits = 0;
        for (int w = 0; w < told.sayings; w++) {
            if (told.isSound(w) && suffices(1 << w, set)) {
                bits |= 1 << w;
            }
        }
        return bits;
    }

    /** Whether all of the set but its sounds could be said sooner or later, once the base is there. */
    private boolean suffices(int base, int set) {
        return (set & ~told.soundBits & ~told.reachable(base)) == 0;
    }

    /** A saying needs one of its beginnings only, so that it fails just when none of them is heard. */
    public int odds(int w, int x, int what) {
        if (!told.hasSaying(w) || x < 0 || x > TENTHS || what < 0 || what > 1) {
            return BAD;
        }
        int chances = told.isSound(w) ? 1 : Integer.bitCount(beginnings(1 << w));
        int lower = 1;
        int missed = 1;
        for (int k = 0; k < chances; k++) {
            lower *= TENTHS;
            missed *= TENTHS - x;
        }
        int number = what == 0 ? lower - missed : lower;
        int divisor = commonDivisor(lower - missed, lower);
        return divisor > 0 ? number / divisor : number;
    }

    private static int commonDivisor(int a, int b) {
        int larger = b;
        int smaller = a;
        for (int step = 0; step < 100 && smaller != 0; step++) {
            int rest = larger % smaller;
            larger = smaller;
            smaller = rest;
        }
        return larger;
    }

    // ---- what was told

    public int tells(int w, int v) {
        if (!told.hasSaying(w) || !told.hasSaying(v) || w == v) {
            return BAD;
        }
        if (toldCount >= MOST_TOLD) {
            return FULL;
        }
        toldAhead[v] |= 1 << w;
        toldCount++;
        return toldCount;
    }

    public int forget() {
        int had = toldCount;
        tellNothing();
        return had;
    }

    private void tellNothing() {
        for (int v = 0; v < MOST_SAYINGS; v++) {
            toldAhead[v] = 0;
        }
        toldCount = 0;
    }

    public int fits() {
        for (int v = 0; v < MOST_SAYINGS; v++) {
            if ((toldAhead[v] & ~present.aheadOf(v)) != 0) {
                return 0;
            }
        }
        return 1;
    }

    public int orders(int set) {
        if (!told.hasAll(set)) {
            return BAD;
        }
        ways[0] = 1;
        for (int come = 1; come <= set; come++) {
            if ((come & ~set) == 0) {
                ways[come] = waysTo(come, set);
            }
        }
        return ways[set];
    }

    private int waysTo(int come, int set) {
        int sum = 0;
        for (int last = 0; last < told.sayings && last < MOST_SAYINGS; last++) {
            int ahead = come & ~(1 << last);
            if (ahead != come && (toldAhead[last] & set & ~ahead) == 0 && told.canFollow(last, ahead)) {
                sum += ways[ahead];
            }
        }
        return sum;
    }

    // ---- kinds, images

    public int mark(int kind, int w) {
        if (!told.hasSaying(w)) {
            return NO;
        }
        switch (kind) {
            case 0: return asSaying(w);
            case 1: return asCough(w);
            case 2: return asBell(w);
            case 3: return asKnock(w);
            case 4: return asEcho(w);
            case 5: return asOwl(w);
            default: return NO;
        }
    }

    private int asSaying(int w) {
        traced += 1;
        return told.worthOf(w);
    }

    private int asCough(int w) {
        traced += 10;
        return asSaying(w) + told.answersCount(w);
    }

    private int asBell(int w) {
        traced += 100;
        return asSaying(w) - present.timesIn(w);
    }

    private int asKnock(int w) {
        traced += 1000;
        return asCough(w) * 2;
    }

    private int asEcho(int w) {
        traced += 10000;
        return asBell(w) + Integer.bitCount(told.knowers(w));
    }

    private int asOwl(int w) {
        traced += 100000;
        return asSaying(w) + present.clock;
    }

    public int keep(int image) {
        if (image < 0 || image > 1) {
            return BAD;
        }
        Moment kept = imageOf(image);
        kept.become(present);
        kept.kept = true;
        return present.clock;
    }

    public int back(int image) {
        if (image < 0 || image > 1) {
            return BAD;
        }
        Moment kept = imageOf(image);
        if (!kept.kept) {
            return STATE;
        }
        present.become(kept);
        return present.clock;
    }

    private Moment imageOf(int image) {
        return image == 0 ? firstImage : secondImage;
    }

    public int count(int what) {
        switch (what) {
            case 0: return told.sayings;
            case 1: return told.people;
            case 2: return told.old;
            case 3: return toldCount;
            case 4: return present.undoable;
            case 5: return text.length;
            default: return BAD;
        }
    }

    public long trace() {
        return traced;
    }

    /** The text's bytes, and the token that is being looked at. */
    private static final class Text {
        private static final int END = 0, WORD = 1, NUMBER = 2, STOP = 3, STRANGE = 4;
        private static final int TOO_LARGE = 100;

        private final int[] bytes;
        private int length;
        private int token;
        /** The token's first byte; the text's length at its end. */
        private int start;
        /** The byte behind the token. */
        private int behind;
        /** Of a number: itself. Of a word of one letter: that letter; of a longer one 0. */
        private int value;

        private Text() {
            bytes = new int[MOST_BYTES];
            length = 0;
            token = END;
            start = 0;
            behind = 0;
            value = 0;
        }

        private boolean put(int c) {
            if (length < 0 || length >= MOST_BYTES) {
                return false;
            }
            bytes[length] = c;
            length++;
            return true;
        }

        private void rewind() {
            behind = 0;
            advance();
        }

        private void advance() {
            start = behind;
            while (start < length && byteAt(start) == ' ') {
                start++;
            }
            behind = start + 1;
            value = 0;
            int first = byteAt(start);
            if (first == NONE) {
                token = END;
                behind = start;
            } else if (first == ';') {
                token = STOP;
            } else if (isLetter(first)) {
                takeWord(first);
            } else if (isDigit(first)) {
                takeNumber(first);
            } else {
                token = STRANGE;
            }
        }

        private void takeWord(int first) {
            while (behind < length && isLetter(byteAt(behind))) {
                behind++;
            }
            token = WORD;
            value = behind == start + 1 ? first : 0;
        }

        private void takeNumber(int first) {
            value = first - '0';
            while (behind < length && isDigit(byteAt(behind))) {
                value = Math.min(TOO_LARGE, value * 10 + byteAt(behind) - '0');
                behind++;
            }
            boolean zeroAhead = first == '0' && behind > start + 1;
            token = zeroAhead || value >= TOO_LARGE ? STRANGE : NUMBER;
        }

        private int byteAt(int place) {
            return place >= 0 && place < length && place < MOST_BYTES ? bytes[place] : NONE;
        }

        private boolean isNumber(int least, int most) {
            return token == NUMBER && value >= least && value <= most;
        }

        private static boolean isLetter(int c) {
            return c >= 'a' && c <= 'z';
        }

        private static boolean isDigit(int c) {
            return c >= '0' && c <= '9';
        }
    }

    /** What a text told: sayings, people, and after how many hours a saying is old. */
    private static final class Duchy {
        private final int[] worthy;
        private final int[] answers;
        private final int[] knows;
        private int sayings;
        private int people;
        private int old;
        private boolean oldIsTold;
        private int soundBits;
        /** Sayings that are no sounds and that somebody knows (bits). */
        private int sayable;

        private Duchy() {
            worthy = new int[MOST_SAYINGS];
            answers = new int[MOST_SAYINGS];
            knows = new int[MOST_PEOPLE];
            old = OLD_AT_FIRST;
        }

        /** How many items; or, at the first token that can't stand where it is, the fault. */
        private int readFrom(Text text) {
            sayings = 0;
            people = 0;
            old = OLD_AT_FIRST;
            oldIsTold = false;
            soundBits = 0;
            int items = 0;
            text.rewind();
            while (items < MOST_ITEMS && text.token != Text.END) {
                if (!readItem(text)) {
                    return FAULT - text.start;
                }
                items++;
                text.advance();
            }
            if (text.token != Text.END) {
                return FAULT - text.start;
            }
            settle();
            return items;
        }

        private boolean readItem(Text text) {
            int letter = text.token == Text.WORD ? text.value : 0;
            if (!hasRoomFor(letter)) {
                return false;
            }
            int number = 0;
            if (letter != 'p') {
                text.advance();
                if (!text.isNumber(letter == 'o' ? 1 : 0, 9)) {
                    return false;
                }
                number = text.value;
            }
            int bits = readNumbers(text, letter == 'a' || letter == 'p' ? MOST_SAYINGS : 0);
            if (bits < 0) {
                return false;
            }
            take(letter, number, bits);
            return true;
        }

        /** False of letters that begin no item, too. */
        private boolean hasRoomFor(int letter) {
            switch (letter) {
                case 'a': return sayings < MOST_SAYINGS;
                case 'z': return sayings < MOST_SAYINGS;
                case 'p': return people < MOST_PEOPLE;
                case 'o': return !oldIsTold;
                default: return false;
            }
        }

        /** The bits of the numbers up to the item's end; BAD at a token that can't stand there. */
        private static int readNumbers(Text text, int most) {
            int bits = 0;
            for (int read = 0; read <= most; read++) {
                text.advance();
                if (text.token == Text.STOP) {
                    return bits;
                }
                if (read == most || !text.isNumber(0, MOST_SAYINGS - 1)) {
                    return BAD;
                }
                bits |= 1 << text.value;
            }
            return BAD;
        }

        private void take(int letter, int number, int bits) {
            if (letter == 'o') {
                old = number;
                oldIsTold = true;
            } else if (letter == 'p' && people < MOST_PEOPLE) {
                knows[people] = bits;
                people++;
            } else if (sayings < MOST_SAYINGS) {
                worthy[sayings] = number;
                answers[sayings] = bits;
                soundBits |= letter == 'z' ? 1 << sayings : 0;
                sayings++;
            }
        }

        /** Only here, as a number may be told ahead of the saying that it means. */
        private void settle() {
            int there = (1 << sayings) - 1;
            for (int w = 0; w < sayings && w < MOST_SAYINGS; w++) {
                answers[w] &= there;
            }
            int known = 0;
            for (int p = 0; p < people && p < MOST_PEOPLE; p++) {
                knows[p] &= there;
                known |= knows[p];
            }
            sayable = known & ~soundBits;
        }

        private boolean hasSaying(int w) {
            return w >= 0 && w < sayings && w < MOST_SAYINGS;
        }

        private boolean hasPerson(int p) {
            return p >= 0 && p < people && p < MOST_PEOPLE;
        }

        private boolean hasAll(int set) {
            return set >= 0 && set < 1 << Math.min(sayings, MOST_SAYINGS);
        }

        private boolean isSound(int w) {
            return (soundBits & 1 << w) != 0;
        }

        private int worthOf(int w) {
            return hasSaying(w) ? worthy[w] : 0;
        }

        private int answersCount(int w) {
            return hasSaying(w) ? Integer.bitCount(answers[w]) : 0;
        }

        private int knowers(int w) {
            int bits = 0;
            for (int p = 0; p < people && p < MOST_PEOPLE; p++) {
                if ((knows[p] & 1 << w) != 0) {
                    bits |= 1 << p;
                }
            }
            return bits;
        }

        /** What somebody may say when the base is there. */
        private int answering(int base) {
            int bits = 0;
            for (int w = 0; w < sayings; w++) {
                if (canAnswer(w, base)) {
                    bits |= 1 << w;
                }
            }
            return bits;
        }

        private boolean canAnswer(int w, int base) {
            return hasSaying(w) && (sayable & 1 << w) != 0 && (answers[w] & base) != 0;
        }

        private int answeredBy(int set) {
            int bits = 0;
            for (int w = 0; w < sayings && w < MOST_SAYINGS; w++) {
                if ((set & 1 << w) != 0) {
                    bits |= answers[w];
                }
            }
            return bits;
        }

        /** What can be said anew, sooner or later, when the base is there; the base itself is not said by that. */
        private int reachable(int base) {
            int bits = 0;
            for (int round = 0; round < MOST_SAYINGS; round++) {
                int more = answering(base | bits);
                if (more == bits) {
                    return bits;
                }
                bits = more;
            }
            return bits;
        }

        private boolean canFollow(int w, int ahead) {
            return isSound(w) || canAnswer(w, ahead);
        }
    }

    /** Talk, the hour, and what may be undone. */
    private static final class Moment {
        private final int[] which;
        private final int[] at;
        private final int[] by;
        private final int[] to;
        private final int[] root;
        private final int[] far;
        private int size;
        private int clock;
        private int undoable;
        /** Of what may be undone, the latest lowest: whether it was an hour (bits). */
        private int hourBits;
        /** Of an image: whether it holds anything. */
        private boolean kept;

        private Moment() {
            which = new int[MOST_TALK];
            at = new int[MOST_TALK];
            by = new int[MOST_TALK];
            to = new int[MOST_TALK];
            root = new int[MOST_TALK];
            far = new int[MOST_TALK];
        }

        private void reset() {
            size = 0;
            clock = 0;
            undoable = 0;
            hourBits = 0;
        }

        private void become(Moment other) {
            System.arraycopy(other.which, 0, which, 0, MOST_TALK);
            System.arraycopy(other.at, 0, at, 0, MOST_TALK);
            System.arraycopy(other.by, 0, by, 0, MOST_TALK);
            System.arraycopy(other.to, 0, to, 0, MOST_TALK);
            System.arraycopy(other.root, 0, root, 0, MOST_TALK);
            System.arraycopy(other.far, 0, far, 0, MOST_TALK);
            size = other.size;
            clock = other.clock;
            undoable = other.undoable;
            hourBits = other.hourBits;
        }

        private boolean has(int i) {
            return i >= 0 && i < size && i < MOST_TALK;
        }

        private boolean add(int w, int p, int answered) {
            if (size < 0 || size >= MOST_TALK) {
                return false;
            }
            which[size] = w;
            at[size] = clock;
            by[size] = p;
            to[size] = answered;
            root[size] = has(answered) ? root[answered] : size;
            far[size] = has(answered) ? far[answered] + 1 : 0;
            size++;
            remember(0);
            return true;
        }

        private boolean passHour() {
            if (clock >= LAST_HOUR) {
                return false;
            }
            clock++;
            remember(1);
            return true;
        }

        private void remember(int hourBit) {
            hourBits = (hourBits << 1 | hourBit) & (1 << MOST_UNDONE) - 1;
            undoable = Math.min(MOST_UNDONE, undoable + 1);
        }

        private boolean takeBack() {
            if (undoable <= 0) {
                return false;
            }
            if ((hourBits & 1) != 0) {
                clock--;
            } else {
                size--;
            }
            hourBits >>= 1;
            undoable--;
            return true;
        }

        private int timesIn(int w) {
            int times = 0;
            for (int i = 0; i < size && i < MOST_TALK; i++) {
                if (which[i] == w) {
                    times++;
                }
            }
            return times;
        }

        private int timesBy(int p) {
            int times = 0;
            for (int i = 0; i < size && i < MOST_TALK; i++) {
                if (by[i] == p) {
                    times++;
                }
            }
            return times;
        }

        private boolean isOpen(int i) {
            return firstAnswerTo(i) == NONE;
        }

        private int firstAnswerTo(int i) {
            for (int k = 0; k < size && k < MOST_TALK; k++) {
                if (to[k] == i) {
                    return k;
                }
            }
            return NONE;
        }

        private boolean isThere(int i, int hoursOn, int old) {
            return has(i) && clock + hoursOn - at[i] <= old;
        }

        private int there(int hoursOn, int old) {
            int bits = 0;
            for (int i = 0; i < size && i < MOST_TALK; i++) {
                if (isThere(i, hoursOn, old)) {
                    bits |= 1 << which[i];
                }
            }
            return bits;
        }

        private int latestOf(int set, int old) {
            for (int i = Math.min(size, MOST_TALK) - 1; i >= 0; i--) {
                if ((set & 1 << which[i]) != 0 && isThere(i, 0, old)) {
                    return i;
                }
            }
            return NONE;
        }

        private int openOnes() {
            int open = 0;
            for (int i = 0; i < size && i < MOST_TALK; i++) {
                if (isOpen(i)) {
                    open++;
                }
            }
            return open;
        }

        private int lastOpen() {
            for (int i = Math.min(size, MOST_TALK) - 1; i >= 0; i--) {
                if (isOpen(i)) {
                    return i;
                }
            }
            return NONE;
        }

        private int farthest() {
            int best = NONE;
            for (int i = 0; i < size && i < MOST_TALK; i++) {
                if (!has(best) || far[i] > far[best]) {
                    best = i;
                }
            }
            return best;
        }

        private int firstAnswerers() {
            int bits = 0;
            for (int i = 0; i < size && i < MOST_TALK; i++) {
                int answer = root[i] == i ? firstAnswerTo(i) : NONE;
                if (has(answer)) {
                    bits |= 1 << by[answer];
                }
            }
            return bits;
        }

        /** What is in talk ahead of the first time a saying is; nothing, if it never is. */
        private int aheadOf(int w) {
            int bits = 0;
            for (int i = 0; i < size && i < MOST_TALK; i++) {
                if (which[i] == w) {
                    return bits;
                }
                bits |= 1 << which[i];
            }
            return 0;
        }
    }
}
