/** A book that is sent as droplets until enough of them fill a cup. README.md tells how to use it. */
public final class BookDroplets {
    public static final int NO_SUCH = -1, BAD_VALUE = -2, BAD_TEXT = -3, TOO_MANY = -4, NOT_POSSIBLE = -5, NONE = -6;
    public static final int WAY = 0, LOSS = 1;

    private static final int MAX_WAY = 2;
    private static final int MAX_LOSS = 99;
    private static final int MAX_CHAPTERS = 16;
    private static final int MAX_NUMBER = 65535;
    private static final int MAX_CUPS = 3;
    private static final int MAX_KEPT = 24;
    private static final int MAX_POURED_AT_ONCE = 99;
    private static final int MAX_NEEDED = 500;
    private static final int MAX_COUNTED = 999;
    private static final int MAX_PAD = 80;
    private static final int MAX_UNDONE = 6;
    private static final int SLOTS = 2;
    private static final int CHARACTERS_IN_LONG = 8;
    private static final int FIRST_CODE = 33;
    private static final int LAST_CODE = 126;

    private final State now = new State();
    private final History history = new History();
    private final State[] slots = new State[SLOTS];
    private final Pad pad = new Pad();
    private final Droplet fallen = new Droplet();
    private final Cup trial = new Cup();
    private final Rows rows = new Rows();

    public BookDroplets() {
    }

    // ---- changes

    public int set(int setting, int value) {
        history.note(now);
        return history.keepUnlessError(changeSetting(setting, value));
    }

    public int chapter(int number) {
        history.note(now);
        return history.keepUnlessError(addChapter(number));
    }

    public int cup() {
        history.note(now);
        return history.keepUnlessError(addCup());
    }

    public int empty(int cup) {
        history.note(now);
        return history.keepUnlessError(emptyCup(cup));
    }

    public int pour(int cup, int seed, int many) {
        history.note(now);
        return history.keepUnlessError(pourDroplets(cup, seed, many));
    }

    public int solve(int cup) {
        history.note(now);
        return history.keepUnlessError(solveCup(cup));
    }

    // ---- what there is

    public int droplet(int seed, int what) {
        if (!isWithin(seed, 0, MAX_NUMBER) || !isWithin(what, 0, 3)) {
            return BAD_VALUE;
        }
        if (now.chapterCount == 0) {
            return NOT_POSSIBLE;
        }
        fallen.makeFrom(now, seed);
        switch (what) {
            case 0:
                return fallen.degree;
            case 1:
                return fallen.set;
            case 2:
                return fallen.number;
            default:
                return fallen.lost ? 1 : 0;
        }
    }

    public int ofCup(int cup, int what) {
        Cup asked = now.cupAt(cup);
        if (asked == null) {
            return NO_SUCH;
        }
        switch (what) {
            case 0:
                return asked.known;
            case 1:
                return asked.keptCount;
            case 2:
                return asked.poured;
            case 3:
                return asked.lost;
            case 4:
                return asked.useless;
            case 5:
                return isFull(asked) ? 1 : 0;
            case 6:
                rows.reduce(asked);
                return asked.knownCount() + rows.singleCount();
            default:
                return BAD_VALUE;
        }
    }

    public int known(int cup, int chapter) {
        Cup asked = now.cupAt(cup);
        if (asked == null || !isWithin(chapter, 0, MAX_CHAPTERS - 1) || chapter >= now.chapterCount) {
            return NO_SUCH;
        }
        return (asked.known & (1 << chapter)) == 0 ? NONE : asked.learnt[chapter];
    }

    public int kept(int cup, int rank, int what) {
        Cup asked = now.cupAt(cup);
        if (asked == null || !isWithin(rank, 0, MAX_KEPT - 1) || rank >= asked.keptCount) {
            return NO_SUCH;
        }
        switch (what) {
            case 0:
                return asked.sets[rank];
            case 1:
                return asked.numbers[rank];
            default:
                return BAD_VALUE;
        }
    }

    public int count(int what) {
        switch (what) {
            case 0:
                return now.chapterCount;
            case 1:
                return now.cupCount;
            case 2:
                return fullCups();
            case 3:
                return now.poured;
            case 4:
                return now.way;
            case 5:
                return now.loss;
            case 6:
                return pad.length;
            case 7:
                return history.count;
            default:
                return BAD_VALUE;
        }
    }

    // ---- what if; nothing changes

    public int would(int cup, int seed) {
        Cup asked = now.cupAt(cup);
        if (asked == null) {
            return NO_SUCH;
        }
        int error = errorOfDroplets(seed, 1);
        if (error < 0) {
            return error;
        }
        fallen.makeFrom(now, seed);
        if (fallen.lost) {
            return 0;
        }
        trial.copyFrom(asked);
        int learns = trial.receive(fallen);
        if (learns > 0) {
            return 2 + learns;
        }
        return trial.useless > asked.useless ? 1 : 2;
    }

    public int needs(int cup, int seed) {
        Cup asked = now.cupAt(cup);
        if (asked == null) {
            return NO_SUCH;
        }
        int error = errorOfDroplets(seed, 1);
        if (error < 0) {
            return error;
        }
        trial.copyFrom(asked);
        for (int used = 0; used <= MAX_NEEDED; used++) {
            if (isFull(trial)) {
                return used;
            }
            fallen.makeFrom(now, wrappedSeed(seed + used));
            trial.receive(fallen);
        }
        return NONE;
    }

    public int degrees(int seed, int many, int degree) {
        if (!isWithin(seed, 0, MAX_NUMBER) || !isWithin(many, 1, MAX_COUNTED) || !isWithin(degree, 1, MAX_CHAPTERS)) {
            return BAD_VALUE;
        }
        if (now.chapterCount == 0) {
            return NOT_POSSIBLE;
        }
        int found = 0;
        for (int i = 0; i < many; i++) {
            fallen.makeFrom(now, wrappedSeed(seed + i));
            if (fallen.degree == degree) {
                found++;
            }
        }
        return found;
    }

    // ---- texts

    public int put(long characters) {
        int many = charactersIn(characters);
        if (many == 0) {
            return BAD_VALUE;
        }
        if (pad.length + many > MAX_PAD) {
            return TOO_MANY;
        }
        for (int i = many - 1; i >= 0; i--) {
            pad.append((char) ((characters >>> (8 * i)) & 255));
        }
        return pad.length;
    }

    public int wipe() {
        int before = pad.length;
        pad.length = 0;
        return before;
    }

    public int fault() {
        return pad.findFault();
    }

    public int carryOut() {
        if (pad.findFault() != NONE) {
            return BAD_TEXT;
        }
        history.note(now);
        int carried = 0;
        pad.goToStart();
        for (int i = 0; i < MAX_PAD; i++) {
            if (!pad.readOrder() || carryOneOut() < 0) {
                break;
            }
            carried++;
            pad.skip(';');
        }
        pad.length = 0;
        return history.keepUnlessError(carried);
    }

    // ---- undo, saving

    public int undo() {
        return history.takeBackInto(now) ? history.count : NOT_POSSIBLE;
    }

    public int save(int slot) {
        if (!isWithin(slot, 0, SLOTS - 1)) {
            return BAD_VALUE;
        }
        State saved = slots[slot];
        if (saved == null) {
            saved = new State();
            slots[slot] = saved;
        }
        saved.copyFrom(now);
        return now.cupCount;
    }

    public int restore(int slot) {
        history.note(now);
        return history.keepUnlessError(restoreFrom(slot));
    }

    // ---- the changes themselves, which the orders of a text make too; the history learns nothing of them here

    private int changeSetting(int setting, int value) {
        if (setting == WAY && isWithin(value, 0, MAX_WAY)) {
            int before = now.way;
            now.way = value;
            return before;
        }
        if (setting == LOSS && isWithin(value, 0, MAX_LOSS)) {
            int before = now.loss;
            now.loss = value;
            return before;
        }
        return BAD_VALUE;
    }

    private int addChapter(int number) {
        if (!isWithin(number, 0, MAX_NUMBER)) {
            return BAD_VALUE;
        }
        if (now.cupCount > 0) {
            return NOT_POSSIBLE;
        }
        int place = now.chapterCount;
        if (!isWithin(place, 0, MAX_CHAPTERS - 1)) {
            return TOO_MANY;
        }
        now.chapters[place] = number;
        now.chapterCount++;
        return place;
    }

    private int addCup() {
        if (now.cupCount >= MAX_CUPS) {
            return TOO_MANY;
        }
        int place = now.cupCount;
        // the cup there is empty: so are all that have not come yet, in states that are brought back, too
        now.cupCount++;
        return place;
    }

    private int emptyCup(int cup) {
        Cup emptied = now.cupAt(cup);
        if (emptied == null) {
            return NO_SUCH;
        }
        int before = emptied.knownCount();
        emptied.clear();
        return before;
    }

    private int pourDroplets(int cup, int seed, int many) {
        Cup filled = now.cupAt(cup);
        if (filled == null) {
            return NO_SUCH;
        }
        int error = errorOfDroplets(seed, many);
        if (error < 0) {
            return error;
        }
        int learns = 0;
        for (int i = 0; i < many; i++) {
            fallen.makeFrom(now, wrappedSeed(seed + i));
            learns += filled.receive(fallen);
        }
        now.poured += many;
        return learns;
    }

    private int solveCup(int cup) {
        Cup solved = now.cupAt(cup);
        if (solved == null) {
            return NO_SUCH;
        }
        rows.reduce(solved);
        return solved.learnSingles(rows);
    }

    private int restoreFrom(int slot) {
        if (!isWithin(slot, 0, SLOTS - 1)) {
            return BAD_VALUE;
        }
        State saved = slots[slot];
        if (saved == null) {
            return NOT_POSSIBLE;
        }
        now.copyFrom(saved);
        return now.cupCount;
    }

    private int carryOneOut() {
        switch (pad.kind) {
            case 'c':
                return addChapter(pad.number);
            case 'u':
                return addCup();
            case 'p':
                return pourDroplets(pad.cup, pad.number, pad.many);
            default:
                return solveCup(pad.cup);
        }
    }

    // ---- helpers

    private int errorOfDroplets(int seed, int many) {
        if (!isWithin(seed, 0, MAX_NUMBER) || !isWithin(many, 1, MAX_POURED_AT_ONCE)) {
            return BAD_VALUE;
        }
        return now.chapterCount == 0 ? NOT_POSSIBLE : 0;
    }

    private boolean isFull(Cup asked) {
        return asked.known == now.allChapters();
    }

    private int fullCups() {
        int full = 0;
        for (int i = 0; i < MAX_CUPS; i++) {
            Cup asked = now.cupAt(i);
            if (asked != null && isFull(asked)) {
                full |= 1 << i;
            }
        }
        return full;
    }

    private static boolean isWithin(int value, int least, int most) {
        return value >= least && value <= most;
    }

    private static int wrappedSeed(int seed) {
        return seed & MAX_NUMBER;
    }

    /** How many characters the number holds; 0 also if it is none that put() takes. */
    private static int charactersIn(long characters) {
        for (int i = 0; i < CHARACTERS_IN_LONG; i++) {
            long rest = characters >>> (8 * i);
            if (rest == 0) {
                return i;
            }
            // 8 bits that are 0 below others fall out here too
            if (!isWithin((int) (rest & 255), FIRST_CODE, LAST_CODE)) {
                return 0;
            }
        }
        return CHARACTERS_IN_LONG;
    }

    /** What undo() and restore() bring back. */
    private static final class State {
        int way = 1;
        int loss;
        int chapterCount;
        int cupCount;
        int poured;
        final int[] chapters = new int[MAX_CHAPTERS];
        final Cup[] cups = new Cup[MAX_CUPS];

        State() {
            for (int i = 0; i < MAX_CUPS; i++) {
                cups[i] = new Cup();
            }
        }

        /** The cup, null if there is none of that number. */
        Cup cupAt(int number) {
            return number >= 0 && number < cupCount && number < MAX_CUPS ? cups[number] : null;
        }

        int allChapters() {
            return (1 << chapterCount) - 1;
        }

        void copyFrom(State other) {
            way = other.way;
            loss = other.loss;
            chapterCount = other.chapterCount;
            cupCount = other.cupCount;
            poured = other.poured;
            System.arraycopy(other.chapters, 0, chapters, 0, MAX_CHAPTERS);
            for (int i = 0; i < MAX_CUPS; i++) {
                Cup mine = cups[i];
                Cup theirs = other.cups[i];
                if (mine != null && theirs != null) {
                    mine.copyFrom(theirs);
                }
            }
        }
    }

    /** The droplet that was made last; one object serves for all, as none is held longer than it falls. */
    private static final class Droplet {
        boolean lost;
        int degree;
        int set;
        int number;

        void makeFrom(State book, int seed) {
            lost = false;
            degree = 0;
            set = 0;
            number = 0;
            int chapters = book.chapterCount;
            if (chapters <= 0) {
                return;
            }
            int x = nextDraw(seed);
            lost = x % 100 < book.loss;
            x = nextDraw(x);
            degree = degreeBy(book.way, x, chapters);
            for (int i = 0; i < degree; i++) {
                x = nextDraw(x);
                addFrom(book, x % chapters);
            }
        }

        /** Adds the first chapter from a place on that the droplet has not. */
        private void addFrom(State book, int place) {
            int chapter = place;
            for (int i = 0; i < MAX_CHAPTERS && (set & (1 << chapter)) != 0; i++) {
                chapter = chapter + 1 < book.chapterCount ? chapter + 1 : 0;
            }
            if (isWithin(chapter, 0, MAX_CHAPTERS - 1)) {
                set |= 1 << chapter;
                number ^= book.chapters[chapter];
            }
        }

        private static int nextDraw(int x) {
            return (75 * x + 74) % 65537;
        }

        private static int degreeBy(int way, int x, int chapters) {
            if (way == 1) {
                return Math.min(commonDegree(x % 24), chapters);
            }
            if (way == 2) {
                return x % 4 == 0 ? 1 : chapters;
            }
            return chapters > 0 ? 1 + x % chapters : 0;
        }

        private static int commonDegree(int y) {
            if (y < 4) {
                return 1;
            }
            if (y < 16) {
                return 2;
            }
            return y < 20 ? 3 : 4;
        }
    }

    /** A chapter alone is handled as a set with one bit; places without a kept droplet hold an empty set. */
    private static final class Cup {
        int known;
        int keptCount;
        int poured;
        int lost;
        int useless;
        final int[] learnt = new int[MAX_CHAPTERS];
        final int[] sets = new int[MAX_KEPT];
        final int[] numbers = new int[MAX_KEPT];

        void clear() {
            known = 0;
            keptCount = 0;
            poured = 0;
            lost = 0;
            useless = 0;
            for (int i = 0; i < MAX_CHAPTERS; i++) {
                learnt[i] = 0;
            }
            for (int i = 0; i < MAX_KEPT; i++) {
                sets[i] = 0;
                numbers[i] = 0;
            }
        }

        void copyFrom(Cup other) {
            known = other.known;
            keptCount = other.keptCount;
            poured = other.poured;
            lost = other.lost;
            useless = other.useless;
            System.arraycopy(other.learnt, 0, learnt, 0, MAX_CHAPTERS);
            System.arraycopy(other.sets, 0, sets, 0, MAX_KEPT);
            System.arraycopy(other.numbers, 0, numbers, 0, MAX_KEPT);
        }

        int knownCount() {
            return Integer.bitCount(known);
        }

        /** Pours a droplet in; answers how many chapters are learnt by it. */
        int receive(Droplet droplet) {
            poured++;
            if (droplet.lost) {
                lost++;
                return 0;
            }
            int before = knownCount();
            int set = droplet.set & ~known;
            int number = droplet.number;
            for (int i = 0; i < MAX_CHAPTERS; i++) {
                if ((droplet.set & known & (1 << i)) != 0) {
                    number ^= learnt[i];
                }
            }
            int chapters = Integer.bitCount(set);
            if (chapters == 1) {
                learn(set, number);
                peel();
            } else if (chapters == 0 || !keepIfRoom(set, number)) {
                useless++;
            }
            return knownCount() - before;
        }

        /** Learns the chapters that stand alone in a row, all of them before any droplet is taken away. */
        int learnSingles(Rows rows) {
            int before = knownCount();
            for (int i = 0; i < MAX_KEPT; i++) {
                if (rows.isSingle(i)) {
                    learn(rows.sets[i], rows.numbers[i]);
                }
            }
            peel();
            return knownCount() - before;
        }

        /** Keeps a droplet behind the others; answers false if there is no room. */
        private boolean keepIfRoom(int set, int number) {
            int place = keptCount;
            if (!isWithin(place, 0, MAX_KEPT - 1)) {
                return false;
            }
            sets[place] = set;
            numbers[place] = number;
            keptCount++;
            return true;
        }

        private void learn(int single, int number) {
            known |= single;
            for (int i = 0; i < MAX_CHAPTERS; i++) {
                if (single == 1 << i) {
                    learnt[i] = number;
                }
            }
            for (int i = 0; i < MAX_KEPT; i++) {
                if ((sets[i] & single) != 0) {
                    sets[i] ^= single;
                    numbers[i] ^= number;
                }
            }
        }

        private void peel() {
            // each round takes a droplet away, so that there are never more rounds than droplets
            for (int round = 0; round < MAX_KEPT; round++) {
                int rank = firstPeelable();
                if (!isWithin(rank, 0, MAX_KEPT - 1)) {
                    return;
                }
                int set = sets[rank];
                int number = numbers[rank];
                removeKept(rank);
                if (set != 0) {
                    learn(set, number);
                }
            }
        }

        /** The rank of the first kept droplet with fewer than two chapters, NONE if there is none. */
        private int firstPeelable() {
            for (int i = 0; i < MAX_KEPT; i++) {
                if (i < keptCount && Integer.bitCount(sets[i]) < 2) {
                    return i;
                }
            }
            return NONE;
        }

        private void removeKept(int rank) {
            for (int i = 0; i + 1 < MAX_KEPT; i++) {
                if (i >= rank) {
                    sets[i] = sets[i + 1];
                    numbers[i] = numbers[i + 1];
                }
            }
            sets[MAX_KEPT - 1] = 0;
            numbers[MAX_KEPT - 1] = 0;
            keptCount--;
        }
    }

    /** A cup's kept droplets, added to one another until each row has a chapter that no other row has. */
    private static final class Rows {
        final int[] sets = new int[MAX_KEPT];
        final int[] numbers = new int[MAX_KEPT];

        // A chapter follows from the droplets just if it stands alone in a row then: any sum of rows
        // keeps the own chapter of each row in it, so that a sum with one chapter is a single row.
        void reduce(Cup cup) {
            System.arraycopy(cup.sets, 0, sets, 0, MAX_KEPT);
            System.arraycopy(cup.numbers, 0, numbers, 0, MAX_KEPT);
            for (int lead = 0; lead < MAX_KEPT; lead++) {
                int own = sets[lead] & -sets[lead];
                for (int i = 0; i < MAX_KEPT; i++) {
                    if (i != lead && (sets[i] & own) != 0) {
                        sets[i] ^= sets[lead];
                        numbers[i] ^= numbers[lead];
                    }
                }
            }
        }

        boolean isSingle(int row) {
            return row >= 0 && row < MAX_KEPT && Integer.bitCount(sets[row]) == 1;
        }

        int singleCount() {
            int singles = 0;
            for (int i = 0; i < MAX_KEPT; i++) {
                if (isSingle(i)) {
                    singles++;
                }
            }
            return singles;
        }
    }

    /** A ring of states; it has one place more than it keeps, so that a state can be noted before it is known whether it counts. */
    private static final class History {
        private static final int PLACES = MAX_UNDONE + 1;

        private final State[] states = new State[PLACES];
        private int first;
        private int count;

        History() {
            for (int i = 0; i < PLACES; i++) {
                states[i] = new State();
            }
        }

        void note(State state) {
            State free = states[placeBehindLast()];
            if (free != null) {
                free.copyFrom(state);
            }
        }

        /** Keeps the noted state if the answer is no error; hands the answer on. */
        int keepUnlessError(int answer) {
            if (answer < 0) {
                return answer;
            }
            if (count < MAX_UNDONE) {
                count++;
            } else {
                first = Math.floorMod(first + 1, PLACES);
            }
            return answer;
        }

        /** Brings the latest state back; answers false if there is none. */
        boolean takeBackInto(State state) {
            if (count <= 0) {
                return false;
            }
            count--;
            State latest = states[placeBehindLast()];
            if (latest != null) {
                state.copyFrom(latest);
            }
            return true;
        }

        private int placeBehindLast() {
            return Math.floorMod(first + count, PLACES);
        }
    }

    /** The text, and what its reader has read of it; the reader stops in front of what cannot stand there. */
    private static final class Pad {
        private static final char END = 0;

        final char[] signs = new char[MAX_PAD];
        int length;
        int place;
        char kind;
        int cup;
        int number;
        int many;

        void append(char sign) {
            if (length >= 0 && length < MAX_PAD) {
                signs[length] = sign;
                length++;
            }
        }

        void goToStart() {
            place = 0;
        }

        int findFault() {
            goToStart();
            // each order takes a character at least
            for (int i = 0; i < MAX_PAD; i++) {
                if (!readOrder()) {
                    return place;
                }
                if (place >= length) {
                    return NONE;
                }
                if (!skip(';')) {
                    return place;
                }
            }
            return place;
        }

        /** Reads an order; answers false if it cannot be read on from the place where the reader stands then. */
        boolean readOrder() {
            kind = signHere();
            switch (kind) {
                case 'c':
                    place++;
                    return readNumber();
                case 'u':
                    place++;
                    return true;
                case 'p':
                    place++;
                    return readCup() && skip('.') && readNumber() && readMany();
                case 's':
                    place++;
                    return readCup();
                default:
                    return false;
            }
        }

        /** Goes behind the sign, if it is the one that stands here. */
        boolean skip(char sign) {
            if (signHere() != sign) {
                return false;
            }
            place++;
            return true;
        }

        private boolean readCup() {
            cup = digitHere();
            if (cup < 0) {
                return false;
            }
            place++;
            return true;
        }

        private boolean readNumber() {
            number = takeNumber();
            return number >= 0;
        }

        private boolean readMany() {
            many = skip('*') ? takeNumber() : 1;
            return many >= 0;
        }

        /** Takes digits as long as the number can have them; NONE if there is none. */
        private int takeNumber() {
            int taken = NONE;
            // a digit that the number cannot have is left: nothing else can take it either, so the fault is there
            for (int i = 0; i < MAX_PAD && taken != 0; i++) {
                int digit = digitHere();
                int longer = Math.max(taken, 0) * 10 + digit;
                if (digit < 0 || longer > MAX_NUMBER) {
                    break;
                }
                taken = longer;
                place++;
            }
            return taken;
        }

        private int digitHere() {
            char sign = signHere();
            return sign >= '0' && sign <= '9' ? sign - '0' : NONE;
        }

        private char signHere() {
            return place >= 0 && place < length && place < MAX_PAD ? signs[place] : END;
        }
    }
}
