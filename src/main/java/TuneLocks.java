import java.util.Arrays;

/**
 * Doors of a town of singers: locks that open to tunes by their steps and
 * their lengths alone. The words in capitals are those of the document.
 */
public final class TuneLocks {
    public static final int NONE = -1;
    public static final int GAP = -1000000;

    private static final int TAPE_BYTES = 1700;
    private static final int FEED_NUMBERS = 5;
    private static final int MOST_TUNES = 14;
    private static final int MOST_LOCKS = 8;
    private static final int TUNE_NOTES = 12;
    private static final int VOICE_NOTES = 40;
    private static final int HIGHEST = 60;
    private static final int LONGEST = 9;
    private static final int MOST_NEAR = 20;
    private static final int TONES = 12;
    private static final int MOST_UNITS = 60;
    private static final int MOST_WITHIN = 6;
    private static final int MOST_LATER = 99;
    private static final int MOST_OFF_DEALT = 99;
    private static final int MOST_LAID = 6;
    private static final int TOO_MANY = -2;
    private static final int BOXES = 3;
    private static final int MOST_WATCHES = 30;
    private static final int MOST_BY = 1000;
    private static final int LAST_TIME = 100000;

    private final byte[] tape = new byte[TAPE_BYTES];
    private int tapeSize;
    private Town here = new Town();
    // A text is read into the spare one, so that a FAULT leaves all as it is.
    private Town spare = new Town();
    private int latestFault;
    private int latestPlace = NONE;
    private final Scene now = new Scene();
    private final Scene[] boxes = new Scene[BOXES];
    // How the VOICE is heard; kept in step with it, since a NOTE more adds one place for each TUNE.
    private final Hearing ear = new Hearing();
    private final Watches watches = new Watches();
    private int time;
    private final Deal deal = new Deal();
    private final Laying laying = new Laying();
    private final Canon canon = new Canon();

    public TuneLocks() {
        for (int i = 0; i < boxes.length; i++) {
            boxes[i] = new Scene();
        }
    }

    // ---- the TAPE and the TOWN

    public int feed(int a, int b, int c, int d, int e) {
        if (tapeSize > TAPE_BYTES - FEED_NUMBERS * 4) {
            return NONE;
        }
        putNumber(a);
        putNumber(b);
        putNumber(c);
        putNumber(d);
        putNumber(e);
        return tapeSize;
    }

    private void putNumber(int number) {
        for (int shift = 24; shift >= 0; shift -= 8) {
            if (tapeSize < tape.length) {
                tape[tapeSize] = (byte) (number >> shift);
                tapeSize++;
            }
        }
    }

    public int end(int n) {
        if (n < 0 || n > tapeSize) {
            return NONE;
        }
        tapeSize = n;
        return n;
    }

    public int town() {
        Reader reader = new Reader(tape, tapeSize, spare);
        boolean isTold = reader.readTown();
        latestFault = reader.fault;
        latestPlace = reader.faultPlace;
        if (!isTold) {
            return NONE;
        }
        Town told = spare;
        spare = here;
        here = told;
        here.prepare();
        tapeSize = 0;
        now.clear();
        ear.hearAll(now.voice, here);
        watches.clear();
        for (int i = 0; i < boxes.length; i++) {
            boxes[i].clear();
        }
        return here.lockCount;
    }

    public int fault(int what) {
        if (what == 0) {
            return latestFault;
        }
        return what == 1 ? latestPlace : NONE;
    }

    // ---- TUNES

    public int notes(int tune) {
        return here.hasTune(tune) ? here.tunes[tune].count : NONE;
    }

    public int step(int tune, int i) {
        if (!here.hasTune(tune) || i < 0 || i >= here.tunes[tune].count - 1) {
            return GAP;
        }
        return here.tunes[tune].riseTo(i + 1);
    }

    public int off(int tune, int song, int place) {
        if (!here.hasTune(tune) || !here.hasTune(song)) {
            return NONE;
        }
        return here.tunes[tune].offAt(here.tunes[song], place);
    }

    public int in(int tune, int song, int what) {
        if (!here.hasTune(tune) || !here.hasTune(song)) {
            return NONE;
        }
        return tellIn(here.hearings[song], tune, here.tunes[song], what);
    }

    private int tellIn(Hearing hearing, int tune, Song song, int what) {
        int place = hearing.place[tune];
        if (place == NONE) {
            return NONE;
        }
        switch (what) {
            case 0:
                return place;
            case 1:
                return hearing.least[tune];
            case 2:
                return here.tunes[tune].firstOffAt(song, place);
            default:
                return NONE;
        }
    }

    // ---- LOCKS

    public int doors(int song, boolean night) {
        if (!here.hasTune(song)) {
            return NONE;
        }
        int bits = 0;
        for (int i = 0; i < here.lockCount; i++) {
            if (here.opensTo(i, here.hearings[song], night, now.worn[i])) {
                bits |= 1 << i;
            }
        }
        return bits;
    }

    public int asked(int lock, int song, boolean night) {
        if (!here.hasLock(lock) || !here.hasTune(song)) {
            return GAP;
        }
        return here.ask(lock, here.hearings[song], night, now.worn[lock]);
    }

    public int least(int lock, boolean night) {
        if (!here.hasLock(lock)) {
            return NONE;
        }
        int best = NONE;
        for (int i = 0; i < here.tuneCount; i++) {
            boolean shorter = best == NONE || here.tunes[i].count < here.tunes[best].count;
            if (shorter && here.opensTo(lock, here.hearings[i], night, now.worn[lock])) {
                best = i;
            }
        }
        return best;
    }

    // ---- sets of TUNES, rounds, the deaf

    public int dealt(int n) {
        if (n < 0 || n > MOST_OFF_DEALT) {
            return NONE;
        }
        return deal.choose(here, n);
    }

    public int master(int tunes, int what) {
        if (tunes < 0 || tunes >= 1 << here.tuneCount || what < 0 || what > MOST_LAID) {
            return NONE;
        }
        if (Integer.bitCount(tunes) > MOST_LAID) {
            return TOO_MANY;
        }
        laying.lay(here, tunes);
        return what == 0 ? laying.fewestNotes() : laying.laidAt(what - 1);
    }

    public int round(int tune, int d) {
        if (!here.hasTune(tune) || d < 1 || d > MOST_LATER) {
            return NONE;
        }
        canon.take(here.tunes[tune]);
        return canon.notSweet(d, here.sweet);
    }

    public int good(int tune, int what) {
        if (!here.hasTune(tune) || what < 0 || what > 1) {
            return NONE;
        }
        canon.take(here.tunes[tune]);
        int d = canon.bestLater(here.sweet);
        if (d == NONE || what == 0) {
            return d;
        }
        return canon.notSweet(d, here.sweet);
    }

    public int deaf(int tune, int song, int tone) {
        if (!here.hasTune(tune) || !here.hasTune(song) || tone < 0 || tone >= TONES) {
            return NONE;
        }
        int best = NONE;
        int places = here.tunes[song].count - here.tunes[tune].count + 1;
        for (int place = 0; place < places; place++) {
            int off = here.tunes[tune].deafOffAt(here.tunes[song], place, tone);
            if (best == NONE || off < best) {
                best = off;
            }
        }
        return best;
    }

    // ---- in earnest

    public int sing(int high, int length) {
        if (!canBeSung(high) || length < 1 || length > LONGEST || now.voice.count >= VOICE_NOTES) {
            return NONE;
        }
        return singNote(high, length);
    }

    private static boolean canBeSung(int high) {
        return high >= 0 && high <= HIGHEST;
    }

    private int singNote(int high, int length) {
        now.voice.add(high, length);
        ear.hearLast(now.voice, here);
        int opened = 0;
        for (int i = 0; i < here.lockCount; i++) {
            boolean isShut = (now.open >> i & 1) == 0;
            if (isShut && here.opensTo(i, ear, now.atNight, now.worn[i])) {
                opened |= 1 << i;
                now.worn[i]++;
            }
        }
        now.open |= opened;
        return opened;
    }

    public int song(int tune, int higher) {
        if (!here.hasTune(tune) || higher < -HIGHEST || higher > HIGHEST) {
            return NONE;
        }
        Song sung = here.tunes[tune];
        if (now.voice.count + sung.count > VOICE_NOTES) {
            return NONE;
        }
        for (int i = 0; i < sung.count; i++) {
            if (!canBeSung(sung.high[i] + higher)) {
                return NONE;
            }
        }
        int opened = 0;
        for (int i = 0; i < sung.count; i++) {
            opened |= singNote(sung.high[i] + higher, sung.length[i]);
        }
        return opened;
    }

    public int silence() {
        int were = now.voice.count;
        now.voice.count = 0;
        ear.hearAll(now.voice, here);
        return were;
    }

    public boolean shut(int lock) {
        if (!here.hasLock(lock) || (now.open >> lock & 1) == 0) {
            return false;
        }
        now.open &= ~(1 << lock);
        return true;
    }

    public boolean night(boolean is) {
        boolean other = now.atNight != is;
        now.atNight = is;
        return other;
    }

    public int lock(int lock, int what) {
        if (!here.hasLock(lock)) {
            return NONE;
        }
        switch (what) {
            case 0:
                return now.open >> lock & 1;
            case 1:
                return now.worn[lock];
            case 2:
                return here.locks[lock].nearWorn(now.worn[lock]);
            default:
                return NONE;
        }
    }

    public int heard(int tune, int what) {
        if (!here.hasTune(tune)) {
            return NONE;
        }
        return tellIn(ear, tune, now.voice, what);
    }

    // ---- the thief

    public int watch(int lock, boolean night, boolean opened) {
        if (!here.hasLock(lock)) {
            return NONE;
        }
        return watches.tell(lock, night, opened, time);
    }

    public boolean untell(int watch) {
        return watches.takeBack(watch, time);
    }

    public int later(int by) {
        if (by < 0 || by > MOST_BY || time + by > LAST_TIME) {
            return NONE;
        }
        time += by;
        return time;
    }

    public int left(int k) {
        return watches.leftAt(k, here);
    }

    public int next(int what, int k) {
        int those = watches.leftAt(k, here);
        if (those == 0 || what < 0 || what > 2) {
            return NONE;
        }
        int all = Integer.bitCount(those);
        int bestLock = NONE;
        int bestSide = 0;
        int bestNumber = all + 1;
        for (int i = 0; i < here.lockCount; i++) {
            for (int side = 0; side < 2; side++) {
                int opening = Integer.bitCount(those & here.locks[i].opensToldBits(side == 1));
                int greater = Math.max(opening, all - opening);
                if (greater < bestNumber) {
                    bestLock = i;
                    bestSide = side;
                    bestNumber = greater;
                }
            }
        }
        if (bestLock == NONE || what == 0) {
            return bestLock;
        }
        return what == 1 ? bestSide : bestNumber;
    }

    // ---- BOXES, and what is told about all

    public int image(int box) {
        if (box < 0 || box >= boxes.length) {
            return NONE;
        }
        boxes[box].becomeLike(now);
        boxes[box].kept = true;
        return now.voice.count;
    }

    public int back(int box) {
        if (box < 0 || box >= boxes.length || !boxes[box].kept) {
            return NONE;
        }
        now.becomeLike(boxes[box]);
        ear.hearAll(now.voice, here);
        return now.voice.count;
    }

    public int about(int what) {
        switch (what) {
            case 0:
                return here.tuneCount;
            case 1:
                return here.lockCount;
            case 2:
                return now.voice.count;
            case 3:
                return now.atNight ? 1 : 0;
            case 4:
                return watches.count;
            case 5:
                return time;
            case 6:
                return tapeSize;
            case 7:
                return here.units;
            default:
                return NONE;
        }
    }

    /** A row of NOTES: a TUNE, or the VOICE. */
    private static final class Song {
        private final int[] high;
        private final int[] length;
        private int count;

        Song(int most) {
            high = new int[Math.max(most, 0)];
            length = new int[Math.max(most, 0)];
        }

        void add(int noteHigh, int noteLength) {
            if (count < high.length) {
                high[count] = noteHigh;
                length[count] = noteLength;
                count++;
            }
        }

        void becomeLike(Song other) {
            count = 0;
            for (int i = 0; i < other.count; i++) {
                add(other.high[i], other.length[i]);
            }
        }

        /** How much higher a NOTE (1 or more) is than the one ahead of it. */
        int riseTo(int i) {
            return i < 1 || i >= count ? 0 : high[i] - high[i - 1];
        }

        int offAt(Song song, int place) {
            return offOfFirst(count, song, place);
        }

        /** OFF of this TUNE's first NOTES alone; NONE if they don't lie within the SONG. */
        int offOfFirst(int notes, Song song, int place) {
            if (notes < 1 || notes > count || place < 0 || place > song.count - notes) {
                return NONE;
            }
            int sum = 0;
            for (int i = 1; i < notes; i++) {
                sum += Math.abs(riseTo(i) - song.riseTo(place + i)) + outOfPace(i, song, place);
            }
            return sum;
        }

        /** 1 or 0; the caller has looked whether this TUNE fits there. */
        private int outOfPace(int i, Song song, int place) {
            return song.length[place + i] * length[0] == song.length[place] * length[i] ? 0 : 1;
        }

        int firstOffAt(Song song, int place) {
            if (place < 0 || place > song.count - count) {
                return NONE;
            }
            for (int i = 1; i < count; i++) {
                if (riseTo(i) != song.riseTo(place + i) || outOfPace(i, song, place) != 0) {
                    return i;
                }
            }
            return NONE;
        }

        /**
         * The least OFF there, if each NOTE of the tone is sung one lower or one higher.
         * Only the choice at the latest NOTE bears on what follows, so two sums are enough.
         */
        int deafOffAt(Song song, int place, int tone) {
            if (place < 0 || place > song.count - count) {
                return NONE;
            }
            int reach = song.reachOf(place, tone);
            int lower = 0;
            int higher = 0;
            for (int i = 1; i < count; i++) {
                int nextReach = song.reachOf(place + i, tone);
                int lack = riseTo(i) - song.riseTo(place + i);
                int pace = outOfPace(i, song, place);
                int toLower = Math.min(lower + Math.abs(lack + nextReach - reach),
                        higher + Math.abs(lack + nextReach + reach));
                int toHigher = Math.min(lower + Math.abs(lack - nextReach - reach),
                        higher + Math.abs(lack - nextReach + reach));
                lower = toLower + pace;
                higher = toHigher + pace;
                reach = nextReach;
            }
            return Math.min(lower, higher);
        }

        /** By how much one who is deaf for the tone misses a NOTE. */
        private int reachOf(int i, int tone) {
            return i >= 0 && i < count && high[i] % TONES == tone ? 1 : 0;
        }
    }

    /** How each TUNE of the TOWN lies in one SONG; NONE where it is longer. */
    private static final class Hearing {
        private final int[] place = new int[MOST_TUNES];
        private final int[] least = new int[MOST_TUNES];
        private final int[] atFirst = new int[MOST_TUNES];
        private final int[] atLast = new int[MOST_TUNES];
        private int notes;

        void hearAll(Song song, Town town) {
            notes = song.count;
            for (int i = 0; i < town.tuneCount; i++) {
                place[i] = NONE;
                least[i] = NONE;
                atFirst[i] = NONE;
                atLast[i] = NONE;
                int last = song.count - town.tunes[i].count;
                for (int j = 0; j <= last; j++) {
                    hearAt(i, j, town.tunes[i].offAt(song, j));
                }
            }
        }

        /** Behind a NOTE more: all but its last place has been heard. */
        void hearLast(Song song, Town town) {
            notes = song.count;
            for (int i = 0; i < town.tuneCount; i++) {
                int last = song.count - town.tunes[i].count;
                if (last >= 0) {
                    hearAt(i, last, town.tunes[i].offAt(song, last));
                }
            }
        }

        private void hearAt(int tune, int at, int off) {
            if (at == 0) {
                atFirst[tune] = off;
            }
            if (at == 0 || off < least[tune]) {
                least[tune] = off;
                place[tune] = at;
            }
            atLast[tune] = off;
        }
    }

    /** A LOCK as it is told; its e is a part of the TOWN's Questions. */
    private static final class Lock {
        private long name;
        private int near;
        private int from;
        private int to;
        private int toldByDay;
        private int toldAtNight;

        int nearWorn(int worn) {
            return Math.min(MOST_NEAR, near + worn / 3);
        }

        /** TUNES by which it OPENS never worn, as bits. */
        int opensToldBits(boolean night) {
            return night ? toldAtNight : toldByDay;
        }
    }

    /** What the LOCKS ask, all e in one row: units first, then what joins them. */
    private static final class Questions {
        // Each unit may be joined once and stand behind not once for each level it is within.
        private static final int MOST_ENTRIES = MOST_UNITS * (MOST_WITHIN + 3);

        private final int[] sorts = new int[MOST_ENTRIES];
        private final int[] values = new int[MOST_ENTRIES];
        private int count;
        private final int[] stack = new int[MOST_UNITS + 1];
        private int top;

        void add(int sort, int value) {
            if (count < sorts.length) {
                sorts[count] = sort;
                values[count] = value;
                count++;
            }
        }

        int answer(Lock lock, Hearing song, boolean night, int worn) {
            int near = lock.nearWorn(worn);
            top = 0;
            for (int i = lock.from; i < lock.to && i < count; i++) {
                switch (sorts[i]) {
                    case Reader.NUMBER:
                        push(values[i]);
                        break;
                    case Reader.IN:
                        push(isNear(song.least, values[i], near));
                        break;
                    case Reader.BEGINS:
                        push(isNear(song.atFirst, values[i], near));
                        break;
                    case Reader.ENDS:
                        push(isNear(song.atLast, values[i], near));
                        break;
                    case Reader.NIGHT:
                        push(night ? 1 : 0);
                        break;
                    case Reader.NOTES:
                        push(song.notes);
                        break;
                    case Reader.WORN:
                        push(worn);
                        break;
                    case Reader.NOT:
                        push(pop() == 0 ? 1 : 0);
                        break;
                    default:
                        int second = pop();
                        push(join(sorts[i], pop(), second));
                }
            }
            return pop();
        }

        private void push(int value) {
            if (top < stack.length) {
                stack[top] = value;
                top++;
            }
        }

        private int pop() {
            if (top < 1) {
                return 0;
            }
            top--;
            return stack[top];
        }

        private static int isNear(int[] offs, int tune, int near) {
            boolean fits = tune >= 0 && tune < offs.length && offs[tune] != NONE;
            return fits && offs[tune] <= near ? 1 : 0;
        }

        private static int join(int sort, int a, int b) {
            switch (sort) {
                case '+':
                    return a + b;
                case '-':
                    return a - b;
                case '<':
                    return a < b ? 1 : 0;
                case '>':
                    return a > b ? 1 : 0;
                case '=':
                    return a == b ? 1 : 0;
                case Reader.AND:
                    return a != 0 && b != 0 ? 1 : 0;
                default:
                    return a != 0 || b != 0 ? 1 : 0;
            }
        }
    }

    /** What is told in a text. */
    private static final class Town {
        private static final int[] SWEET_UNTOLD = {0, 3, 4, 7, 8, 9};

        private final Song[] tunes = new Song[MOST_TUNES];
        private final long[] tuneNames = new long[MOST_TUNES];
        private final Hearing[] hearings = new Hearing[MOST_TUNES];
        private int tuneCount;
        private final Lock[] locks = new Lock[MOST_LOCKS];
        private int lockCount;
        private final Questions questions = new Questions();
        private int units;
        private final boolean[] sweet = new boolean[TONES];

        Town() {
            for (int i = 0; i < MOST_TUNES; i++) {
                tunes[i] = new Song(TUNE_NOTES);
                hearings[i] = new Hearing();
            }
            for (int i = 0; i < MOST_LOCKS; i++) {
                locks[i] = new Lock();
            }
        }

        void clear() {
            tuneCount = 0;
            lockCount = 0;
            units = 0;
            questions.count = 0;
            for (int i = 0; i < sweet.length; i++) {
                sweet[i] = false;
            }
        }

        void sweetenUntold() {
            for (int i = 0; i < SWEET_UNTOLD.length; i++) {
                sweet[SWEET_UNTOLD[i]] = true;
            }
        }

        boolean hasTune(int tune) {
            return tune >= 0 && tune < tuneCount;
        }

        boolean hasLock(int lock) {
            return lock >= 0 && lock < lockCount;
        }

        int tuneNamed(long name) {
            for (int i = 0; i < tuneCount; i++) {
                if (tuneNames[i] == name) {
                    return i;
                }
            }
            return NONE;
        }

        boolean hasLockNamed(long name) {
            for (int i = 0; i < lockCount; i++) {
                if (locks[i].name == name) {
                    return true;
                }
            }
            return false;
        }

        /** A told TOWN never changes, so what is asked of it again and again is found once. */
        void prepare() {
            for (int i = 0; i < tuneCount; i++) {
                hearings[i].hearAll(tunes[i], this);
            }
            for (int i = 0; i < lockCount; i++) {
                locks[i].toldByDay = opensNeverWorn(i, false);
                locks[i].toldAtNight = opensNeverWorn(i, true);
            }
        }

        private int opensNeverWorn(int lock, boolean night) {
            int bits = 0;
            for (int i = 0; i < tuneCount; i++) {
                if (opensTo(lock, hearings[i], night, 0)) {
                    bits |= 1 << i;
                }
            }
            return bits;
        }

        int ask(int lock, Hearing song, boolean night, int worn) {
            return questions.answer(locks[lock], song, night, worn);
        }

        boolean opensTo(int lock, Hearing song, boolean night, int worn) {
            return song.notes > 0 && ask(lock, song, night, worn) != 0;
        }

        boolean isNear(int a, int b, int n) {
            return isIn(a, b, n) || isIn(b, a, n);
        }

        boolean isIn(int tune, int song, int n) {
            int off = hearings[song].least[tune];
            return off != NONE && off <= n;
        }
    }

    /** Reads a text, TOKEN by TOKEN, into a TOWN; stops at the first FAULT. */
    private static final class Reader {
        // Words that stand for themselves, eight signs each; a word's sort is its number here.
        private static final String WORDS = "tune    lock    sweet   of      near    opens   or      and     not     in      begins  ends    night   notes   worn    ";
        private static final int LONGEST_WORD = 8;
        private static final int LONGEST_NUMBER = 4;

        private static final int TUNE = 0;
        private static final int LOCK = 1;
        private static final int SWEET = 2;
        private static final int OF = 3;
        private static final int NEAR = 4;
        private static final int OPENS = 5;
        private static final int OR = 6;
        private static final int AND = 7;
        private static final int NOT = 8;
        private static final int IN = 9;
        private static final int BEGINS = 10;
        private static final int ENDS = 11;
        private static final int NIGHT = 12;
        private static final int NOTES = 13;
        private static final int WORN = 14;
        private static final int NAME = 15;
        private static final int NUMBER = 16;
        private static final int THE_END = 17;
        private static final int NO_TOKEN = 18;
        // A sign's sort is its byte: all of them are above these numbers.

        private static final int FAULT_NO_TOKEN = 1;
        private static final int FAULT_CANT_STAND = 2;
        private static final int FAULT_TOLD_ALREADY = 3;
        private static final int FAULT_NUMBER = 4;
        private static final int FAULT_NO_TUNE = 5;

        private final byte[] text;
        private final int size;
        private final Town town;
        private int at;
        private int sort;
        private int place;
        private int number;
        private long word;
        private boolean sweetTold;
        private int fault;
        private int faultPlace = NONE;

        Reader(byte[] bytes, int length, Town into) {
            text = bytes;
            size = Math.min(length, bytes.length);
            town = into;
        }

        boolean readTown() {
            town.clear();
            takeToken();
            boolean fine = true;
            for (int i = 0; i < TAPE_BYTES && fine && sort != THE_END; i++) {
                switch (sort) {
                    case TUNE:
                        fine = readTune();
                        break;
                    case LOCK:
                        fine = readLock();
                        break;
                    case SWEET:
                        fine = readSweet();
                        break;
                    default:
                        fine = refuse();
                }
            }
            if (!sweetTold) {
                town.sweetenUntold();
            }
            return fine;
        }

        private boolean readTune() {
            if (town.tuneCount >= MOST_TUNES) {
                return refuse();
            }
            takeToken();
            if (sort != NAME) {
                return refuse();
            }
            if (town.tuneNamed(word) != NONE) {
                return fail(FAULT_TOLD_ALREADY);
            }
            town.tuneNames[town.tuneCount] = word;
            takeToken();
            if (!take(OF) || !readNotes(town.tunes[town.tuneCount]) || !take(';')) {
                return false;
            }
            town.tuneCount++;
            return true;
        }

        /** A 13th NOTE is left standing, where the caller looks for the line's last sign. */
        private boolean readNotes(Song tune) {
            tune.count = 0;
            for (int i = 0; i < TUNE_NOTES && (i == 0 || sort == NUMBER); i++) {
                int high = number;
                if (!takeNumber(0, HIGHEST)) {
                    return false;
                }
                int length = number;
                if (!takeNumber(1, LONGEST)) {
                    return false;
                }
                tune.add(high, length);
            }
            return true;
        }

        private boolean readLock() {
            if (town.lockCount >= MOST_LOCKS) {
                return refuse();
            }
            takeToken();
            if (sort != NAME) {
                return refuse();
            }
            if (town.hasLockNamed(word)) {
                return fail(FAULT_TOLD_ALREADY);
            }
            Lock lock = town.locks[town.lockCount];
            lock.name = word;
            takeToken();
            if (!take(NEAR)) {
                return false;
            }
            lock.near = number;
            if (!takeNumber(0, MOST_NEAR) || !take(OPENS)) {
                return false;
            }
            lock.from = town.questions.count;
            if (!readE(0) || !take(';')) {
                return false;
            }
            lock.to = town.questions.count;
            town.lockCount++;
            return true;
        }

        private boolean readSweet() {
            if (sweetTold) {
                return refuse();
            }
            sweetTold = true;
            takeToken();
            for (int i = 0; i < TONES && (i == 0 || sort == NUMBER); i++) {
                int tone = number;
                if (sort == NUMBER && tone < TONES && town.sweet[tone]) {
                    return fail(FAULT_TOLD_ALREADY);
                }
                if (!takeNumber(0, TONES - 1)) {
                    return false;
                }
                town.sweet[tone] = true;
            }
            return take(';');
        }

        // The depth: within how many units ( e ) and ones behind not this stands.

        private boolean readE(int depth) {
            if (!readBoth(depth)) {
                return false;
            }
            for (int i = 0; i < TAPE_BYTES && sort == OR; i++) {
                takeToken();
                if (!readBoth(depth)) {
                    return false;
                }
                town.questions.add(OR, 0);
            }
            return true;
        }

        private boolean readBoth(int depth) {
            if (!readOne(depth)) {
                return false;
            }
            for (int i = 0; i < TAPE_BYTES && sort == AND; i++) {
                takeToken();
                if (!readOne(depth)) {
                    return false;
                }
                town.questions.add(AND, 0);
            }
            return true;
        }

        private boolean readOne(int depth) {
            if (sort == NOT) {
                return readNot(depth);
            }
            if (!readSum(depth)) {
                return false;
            }
            int relation = sort;
            if (relation == '<' || relation == '>' || relation == '=') {
                takeToken();
                if (!readSum(depth)) {
                    return false;
                }
                town.questions.add(relation, 0);
            }
            return true;
        }

        private boolean readNot(int depth) {
            if (depth > MOST_WITHIN) {
                return refuse();
            }
            takeToken();
            if (!readOne(depth + 1)) {
                return false;
            }
            town.questions.add(NOT, 0);
            return true;
        }

        private boolean readSum(int depth) {
            if (!readUnit(depth)) {
                return false;
            }
            for (int i = 0; i < TAPE_BYTES && (sort == '+' || sort == '-'); i++) {
                int joint = sort;
                takeToken();
                if (!readUnit(depth)) {
                    return false;
                }
                town.questions.add(joint, 0);
            }
            return true;
        }

        private boolean readUnit(int depth) {
            if (!beginsUnit() || town.units >= MOST_UNITS) {
                return refuse();
            }
            town.units++;
            int first = sort;
            if (first == '(') {
                if (depth > MOST_WITHIN) {
                    return refuse();
                }
                takeToken();
                return readE(depth + 1) && take(')');
            }
            int value = number;
            takeToken();
            if (first == IN || first == BEGINS || first == ENDS) {
                if (sort != NAME) {
                    return refuse();
                }
                value = town.tuneNamed(word);
                if (value == NONE) {
                    return fail(FAULT_NO_TUNE);
                }
                takeToken();
            }
            town.questions.add(first, value);
            return true;
        }

        private boolean beginsUnit() {
            switch (sort) {
                case NUMBER:
                case IN:
                case BEGINS:
                case ENDS:
                case NIGHT:
                case NOTES:
                case WORN:
                case '(':
                    return true;
                default:
                    return false;
            }
        }

        private boolean take(int wanted) {
            if (sort != wanted) {
                return refuse();
            }
            takeToken();
            return true;
        }

        private boolean takeNumber(int smallest, int greatest) {
            if (sort != NUMBER) {
                return refuse();
            }
            if (number < smallest || number > greatest) {
                return fail(FAULT_NUMBER);
            }
            takeToken();
            return true;
        }

        /** The latest TOKEN can't stand where it is, or is none. */
        private boolean refuse() {
            return fail(sort == NO_TOKEN ? FAULT_NO_TOKEN : FAULT_CANT_STAND);
        }

        private boolean fail(int kind) {
            fault = kind;
            faultPlace = place;
            return false;
        }

        private void takeToken() {
            while (at < size && (text[at] == 32 || text[at] == 10)) {
                at++;
            }
            place = at;
            if (at >= size) {
                sort = THE_END;
            } else if (letterAt(at)) {
                takeLetters();
                sort = sortOfWord(at - place);
            } else if (digitAt(at)) {
                takeDigits();
            } else {
                sort = isSign(text[at]) ? text[at] : NO_TOKEN;
                at++;
            }
        }

        private void takeLetters() {
            word = 0;
            while (at < size && letterAt(at)) {
                word = word * 32 + (text[at] - 'a' + 1);
                at++;
            }
        }

        private void takeDigits() {
            number = 0;
            while (at < size && digitAt(at)) {
                number = number * 10 + (text[at] - '0');
                at++;
            }
            sort = at - place > LONGEST_NUMBER || letterAt(at) ? NO_TOKEN : NUMBER;
        }

        private int sortOfWord(int length) {
            if (length > LONGEST_WORD) {
                return NO_TOKEN;
            }
            for (int slot = 0; slot + LONGEST_WORD <= WORDS.length(); slot += LONGEST_WORD) {
                int same = 0;
                while (same < LONGEST_WORD
                        && WORDS.charAt(slot + same) == (same < length ? text[place + same] : ' ')) {
                    same++;
                }
                if (same == LONGEST_WORD) {
                    return slot / LONGEST_WORD;
                }
            }
            return NAME;
        }

        private boolean letterAt(int i) {
            return i >= 0 && i < size && text[i] >= 'a' && text[i] <= 'z';
        }

        private boolean digitAt(int i) {
            return i >= 0 && i < size && text[i] >= '0' && text[i] <= '9';
        }

        private static boolean isSign(int sign) {
            switch (sign) {
                case ';':
                case '(':
                case ')':
                case '<':
                case '>':
                case '=':
                case '+':
                case '-':
                    return true;
                default:
                    return false;
            }
        }
    }

    /** What is so in earnest: all that an image keeps. */
    private static final class Scene {
        private final Song voice = new Song(VOICE_NOTES);
        private boolean atNight;
        private int open;
        private final int[] worn = new int[MOST_LOCKS];
        private boolean kept;

        void clear() {
            voice.count = 0;
            atNight = false;
            open = 0;
            Arrays.fill(worn, 0);
            kept = false;
        }

        void becomeLike(Scene other) {
            voice.becomeLike(other.voice);
            atNight = other.atNight;
            open = other.open;
            System.arraycopy(other.worn, 0, worn, 0, MOST_LOCKS);
        }
    }

    /** WATCHES, untold ones too: what was known once stays known as of then. */
    private static final class Watches {
        private final int[] watched = new int[MOST_WATCHES];
        private final boolean[] atNight = new boolean[MOST_WATCHES];
        private final boolean[] didOpen = new boolean[MOST_WATCHES];
        private final int[] toldAt = new int[MOST_WATCHES];
        private final int[] untoldAt = new int[MOST_WATCHES];
        private int count;

        void clear() {
            count = 0;
        }

        int tell(int lock, boolean night, boolean opened, int time) {
            if (count >= MOST_WATCHES) {
                return NONE;
            }
            watched[count] = lock;
            atNight[count] = night;
            didOpen[count] = opened;
            toldAt[count] = time;
            untoldAt[count] = NONE;
            count++;
            return count - 1;
        }

        boolean takeBack(int watch, int time) {
            if (watch < 0 || watch >= count || untoldAt[watch] != NONE) {
                return false;
            }
            untoldAt[watch] = time;
            return true;
        }

        private boolean counts(int watch, int k) {
            boolean untold = untoldAt[watch] != NONE && untoldAt[watch] <= k;
            return toldAt[watch] <= k && !untold;
        }

        int leftAt(int k, Town town) {
            int bits = (1 << town.tuneCount) - 1;
            for (int i = 0; i < count; i++) {
                if (counts(i, k) && town.hasLock(watched[i])) {
                    int opening = town.locks[watched[i]].opensToldBits(atNight[i]);
                    bits &= didOpen[i] ? opening : ~opening;
                }
            }
            return bits;
        }
    }

    /** The most TUNES no two of which are NEAR. */
    private static final class Deal {
        private final int[] nearBits = new int[MOST_TUNES];
        private int best;
        private int bestSize;

        int choose(Town town, int n) {
            for (int i = 0; i < town.tuneCount; i++) {
                nearBits[i] = 0;
                for (int j = 0; j < town.tuneCount; j++) {
                    if (i != j && town.isNear(i, j, n)) {
                        nearBits[i] |= 1 << j;
                    }
                }
            }
            best = 0;
            bestSize = NONE;
            pick(this, town.tuneCount, 0, 0);
            return best;
        }

        /**
         * Of the TUNES below that number some are still to be picked. The highest is left
         * out first: so sets come from the least on, and the first of its size stays.
         */
        private static void pick(Deal deal, int below, int chosen, int size) {
            if (size + below <= deal.bestSize) {
                return;
            }
            if (below < 1 || below > deal.nearBits.length) {
                deal.best = chosen;
                deal.bestSize = size;
                return;
            }
            int tune = below - 1;
            pick(deal, tune, chosen, size);
            if ((deal.nearBits[tune] & chosen) == 0) {
                pick(deal, tune, chosen | 1 << tune, size + 1);
            }
        }
    }

    /** The shortest row of TUNES that holds a set of them. */
    private static final class Laying {
        private final int[] members = new int[MOST_LAID];
        private final int[] lengths = new int[MOST_LAID];
        private int count;
        private final int[][] overlaps = new int[MOST_LAID][MOST_LAID];
        private final int[] row = new int[MOST_LAID];
        private final int[] bestRow = new int[MOST_LAID];
        private int fewest;

        int fewestNotes() {
            return fewest;
        }

        int laidAt(int i) {
            return i >= 0 && i < count ? members[bestRow[i]] : NONE;
        }

        void lay(Town town, int set) {
            count = 0;
            for (int i = 0; i < town.tuneCount && count < MOST_LAID; i++) {
                if ((set >> i & 1) != 0 && !isLeftOut(town, set, i)) {
                    members[count] = i;
                    lengths[count] = town.tunes[i].count;
                    count++;
                }
            }
            for (int i = 0; i < count; i++) {
                for (int j = 0; j < count; j++) {
                    overlaps[i][j] = overlap(town.tunes[members[i]], town.tunes[members[j]]);
                }
            }
            fewest = MOST_LAID * TUNE_NOTES + 1;
            layNext(this, 0, 0, 0);
        }

        private static boolean isLeftOut(Town town, int set, int tune) {
            for (int i = 0; i < town.tuneCount; i++) {
                boolean other = i != tune && (set >> i & 1) != 0;
                if (other && town.isIn(tune, i, 0) && (i < tune || !town.isIn(i, tune, 0))) {
                    return true;
                }
            }
            return false;
        }

        private static int overlap(Song ahead, Song behind) {
            for (int notes = Math.min(ahead.count, behind.count); notes > 0; notes--) {
                if (behind.offOfFirst(notes, ahead, ahead.count - notes) == 0) {
                    return notes;
                }
            }
            return 0;
        }

        /** Rows come from the first on, so of like ones the first stays. */
        private static void layNext(Laying laying, int depth, int used, int notes) {
            if (notes >= laying.fewest) {
                return;
            }
            if (depth >= laying.count || depth >= MOST_LAID) {
                laying.fewest = notes;
                System.arraycopy(laying.row, 0, laying.bestRow, 0, MOST_LAID);
                return;
            }
            for (int i = 0; i < laying.count; i++) {
                if ((used >> i & 1) == 0) {
                    int over = depth == 0 ? 0 : laying.overlaps[laying.row[depth - 1]][i];
                    laying.row[depth] = i;
                    layNext(laying, depth + 1, used | 1 << i, notes + laying.lengths[i] - over);
                }
            }
        }
    }

    /** A TUNE moment by moment, to be sung against itself. */
    private static final class Canon {
        private final int[] moments = new int[TUNE_NOTES * LONGEST];
        private int count;

        void take(Song tune) {
            count = 0;
            for (int i = 0; i < tune.count; i++) {
                for (int j = 0; j < tune.length[i] && count < moments.length; j++) {
                    moments[count] = tune.high[i];
                    count++;
                }
            }
        }

        int notSweet(int later, boolean[] sweet) {
            int sum = 0;
            for (int i = later; i < count && later > 0; i++) {
                int apart = Math.abs(moments[i] - moments[i - later]) % TONES;
                if (apart < 0 || apart >= sweet.length || !sweet[apart]) {
                    sum++;
                }
            }
            return sum;
        }

        int bestLater(boolean[] sweet) {
            int best = NONE;
            int fewest = 0;
            for (int d = 1; d <= MOST_LATER && d < count; d++) {
                int sum = notSweet(d, sweet);
                if (best == NONE || sum < fewest) {
                    best = d;
                    fewest = sum;
                }
            }
            return best;
        }
    }
}
