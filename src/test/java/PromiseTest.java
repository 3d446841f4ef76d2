/**
 * One method for each promise of the document. The droplets in it were drawn apart from the program: with
 * four chapters and WAY 1 those of the seeds 0 to 12 have the sets 0b0101, 0b1011, 0b0010, 0b0101, 0b1111,
 * 0b1010, 0b1001, 0b1111, 0b1010, 0b1110, 0b0100, 0b1101 and 0b1000. In a book of the chapters 1, 2, 4 and
 * 8 a droplet's number is its set.
 */
public final class PromiseTest {
    private static final int NO_SUCH = -1, BAD_VALUE = -2, BAD_TEXT = -3, TOO_MANY = -4, NOT_POSSIBLE = -5, NONE = -6;
    private static final int CHANGES = 7;

    public static void main(String[] args) {
        constants();
        p01NewObject();
        p02Set();
        p03Chapter();
        p04Cup();
        p05Empty();
        p06Pour();
        p06PourWithoutRoom();
        p06Lost();
        p06Peeling();
        p07Solve();
        p07SolveNothing();
        p08Droplet();
        p08Ways();
        p09OfCup();
        p10Known();
        p11Kept();
        p12Count();
        p13Would();
        p14Needs();
        p14NeedsEdges();
        p15Degrees();
        p16Put();
        p17Wipe();
        p18Fault();
        p19CarryOut();
        p19CarryOutUpToAnError();
        p20Undo();
        p20WhatIsAChange();
        p21Save();
        p22Restore();
        Due.end();
    }

    private static void is(String call, long got, long due) {
        Due.is(call, got, due);
    }

    private static void pourAll(BookDroplets x, int cup, int... seeds) {
        for (int seed : seeds) {
            x.pour(cup, seed, 1);
        }
    }

    private static void constants() {
        is("NO_SUCH", BookDroplets.NO_SUCH, NO_SUCH);
        is("BAD_VALUE", BookDroplets.BAD_VALUE, BAD_VALUE);
        is("BAD_TEXT", BookDroplets.BAD_TEXT, BAD_TEXT);
        is("TOO_MANY", BookDroplets.TOO_MANY, TOO_MANY);
        is("NOT_POSSIBLE", BookDroplets.NOT_POSSIBLE, NOT_POSSIBLE);
        is("NONE", BookDroplets.NONE, NONE);
        is("WAY", BookDroplets.WAY, 0);
        is("LOSS", BookDroplets.LOSS, 1);
    }

    private static void p01NewObject() {
        BookDroplets x = new BookDroplets();
        int[] due = {0, 0, 0, 0, 1, 0, 0, 0};
        for (int what = 0; what < due.length; what++) {
            is("1: count(" + what + ")", x.count(what), due[what]);
        }
        is("1: ofCup(0, 0)", x.ofCup(0, 0), NO_SUCH);
        is("1: known(0, 0)", x.known(0, 0), NO_SUCH);
        is("1: fault()", x.fault(), 0);
        is("1: undo()", x.undo(), NOT_POSSIBLE);
        is("1: restore(0)", x.restore(0), NOT_POSSIBLE);
        is("1: restore(1)", x.restore(1), NOT_POSSIBLE);
        BookDroplets y = new BookDroplets();
        x.chapter(5);
        is("1: another object's count(0)", y.count(0), 0);
    }

    private static void p02Set() {
        BookDroplets x = new BookDroplets();
        is("2: set(WAY, 2)", x.set(0, 2), 1);
        is("2: set(WAY, 0)", x.set(0, 0), 2);
        is("2: set(WAY, 0) again", x.set(0, 0), 0);
        is("2: set(LOSS, 99)", x.set(1, 99), 0);
        is("2: set(LOSS, 0)", x.set(1, 0), 99);
        is("2: set(LOSS, 33)", x.set(1, 33), 0);
        is("2: undoable", x.count(CHANGES), 6);
        is("2: set(-1, 0)", x.set(-1, 0), BAD_VALUE);
        is("2: set(2, 0)", x.set(2, 0), BAD_VALUE);
        is("2: set(WAY, -1)", x.set(0, -1), BAD_VALUE);
        is("2: set(WAY, 3)", x.set(0, 3), BAD_VALUE);
        is("2: set(LOSS, -1)", x.set(1, -1), BAD_VALUE);
        is("2: set(LOSS, 100)", x.set(1, 100), BAD_VALUE);
        is("2: set(MIN, MAX)", x.set(Integer.MIN_VALUE, Integer.MAX_VALUE), BAD_VALUE);
        is("2: WAY after errors", x.count(4), 0);
        is("2: LOSS after errors", x.count(5), 33);
        x.undo();
        is("2: LOSS after undo", x.count(5), 0);
    }

    private static void p03Chapter() {
        BookDroplets x = new BookDroplets();
        is("3: chapter(-1)", x.chapter(-1), BAD_VALUE);
        is("3: chapter(65536)", x.chapter(65536), BAD_VALUE);
        for (int i = 0; i < 16; i++) {
            is("3: chapter " + i, x.chapter(i % 2 == 0 ? 0 : 65535), i);
        }
        is("3: chapter 16", x.chapter(7), TOO_MANY);
        is("3: a bad chapter 16", x.chapter(65536), BAD_VALUE);
        is("3: chapters", x.count(0), 16);
        x.cup();
        is("3: full book with a cup", x.chapter(7), NOT_POSSIBLE);
        is("3: bad chapter with a cup", x.chapter(-1), BAD_VALUE);
        BookDroplets y = Books.book(2, 1);
        is("3: chapter with a cup", y.chapter(3), NOT_POSSIBLE);
        is("3: chapters with a cup", y.count(0), 2);
        y.undo();
        is("3: chapter without the cup", y.chapter(3), 2);
    }

    private static void p04Cup() {
        BookDroplets x = Books.book(4, 0);
        is("4: cup 0", x.cup(), 0);
        is("4: cup 1", x.cup(), 1);
        is("4: cup 2", x.cup(), 2);
        is("4: cup 3", x.cup(), TOO_MANY);
        is("4: cups", x.count(1), 3);
        is("4: undoable", x.count(CHANGES), 6);
        x.undo();
        x.cup();
        pourAll(x, 2, 0, 2);
        x.undo();
        x.undo();
        x.undo();
        is("4: cups after undo", x.count(1), 2);
        is("4: cup 2 again", x.cup(), 2);
        for (int what = 0; what <= 6; what++) {
            is("4: ofCup(2, " + what + ") of a new cup", x.ofCup(2, what), 0);
        }
        BookDroplets y = Books.book(0, 1);
        is("4: a cup of an empty book is full", y.ofCup(0, 5), 1);
    }

    private static void p05Empty() {
        BookDroplets x = Books.book(4, 1);
        is("5: empty(-1)", x.empty(-1), NO_SUCH);
        is("5: empty(1)", x.empty(1), NO_SUCH);
        is("5: empty(0) of an empty cup", x.empty(0), 0);
        x.pour(0, 0, 4);
        is("5: empty(0)", x.empty(0), 1);
        x.undo();
        x.set(1, 50);
        x.pour(0, 1, 1);
        x.pour(0, 4, 1);
        x.set(1, 0);
        x.pour(0, 2, 1);
        is("5: lost, to be forgotten", x.ofCup(0, 3), 1);
        is("5: useless, to be forgotten", x.ofCup(0, 4), 1);
        is("5: empty(0) once more", x.empty(0), 1);
        for (int what = 0; what <= 6; what++) {
            is("5: ofCup(0, " + what + ")", x.ofCup(0, what), 0);
        }
        is("5: known(0, 1)", x.known(0, 1), NONE);
        is("5: kept(0, 0, 0)", x.kept(0, 0, 0), NO_SUCH);
        is("5: poured into all", x.count(3), 7);
        x.undo();
        is("5: known(0, 1) after undo", x.known(0, 1), 2);
        is("5: ofCup(0, 1) after undo", x.ofCup(0, 1), 4);
        is("5: ofCup(0, 2) after undo", x.ofCup(0, 2), 7);
        x.empty(0);
        pourAll(x, 0, 2, 12, 10);
        is("5: nothing that was kept is there for what is learnt", x.ofCup(0, 0), 0b1110);
    }

    private static void p06Pour() {
        BookDroplets x = Books.book(4, 1);
        is("6: pour(-1, 0, 1)", x.pour(-1, 0, 1), NO_SUCH);
        is("6: pour(1, -1, 0)", x.pour(1, -1, 0), NO_SUCH);
        is("6: pour(0, -1, 1)", x.pour(0, -1, 1), BAD_VALUE);
        is("6: pour(0, 65536, 1)", x.pour(0, 65536, 1), BAD_VALUE);
        is("6: pour(0, 0, 0)", x.pour(0, 0, 0), BAD_VALUE);
        is("6: pour(0, 0, 100)", x.pour(0, 0, 100), BAD_VALUE);
        is("6: poured by errors", x.count(3), 0);
        is("6: pour(0, 0, 1)", x.pour(0, 0, 1), 0);
        is("6: pour(0, 2, 1)", x.pour(0, 2, 1), 1);
        is("6: pour(0, 2, 1) again", x.pour(0, 2, 1), 0);
        is("6: useless", x.ofCup(0, 4), 1);
        is("6: pour(0, 12, 1)", x.pour(0, 12, 1), 1);
        is("6: known", x.ofCup(0, 0), 0b1010);
        is("6: pour(0, 4, 1) keeps what is left", x.pour(0, 4, 1), 0);
        is("6: kept(0, 1, 0)", x.kept(0, 1, 0), 0b0101);
        is("6: kept(0, 1, 1)", x.kept(0, 1, 1), 0b0101);
        is("6: pour(0, 10, 1) learns two", x.pour(0, 10, 1), 2);
        is("6: full", x.ofCup(0, 5), 1);
        is("6: keeps", x.ofCup(0, 1), 0);
        is("6: useless as they were poured", x.ofCup(0, 4), 1);
        is("6: pour(0, 0, 99)", x.pour(0, 0, 99), 0);
        is("6: poured", x.ofCup(0, 2), 105);
        is("6: useless at the end", x.ofCup(0, 4), 100);
        BookDroplets y = Books.book(4, 1);
        // {1, 3}, {0, 2}, {0, 1, 3} and {1} of the seeds 65535, 0, 1 and 2
        is("6: pour(0, 65535, 2) goes on at 0", y.pour(0, 65535, 2), 0);
        is("6: kept(0, 0, 0) of seed 65535", y.kept(0, 0, 0), 0b1010);
        is("6: kept(0, 1, 0) of seed 0", y.kept(0, 1, 0), 0b0101);
        is("6: pour(0, 1, 2)", y.pour(0, 1, 2), 4);
        y.empty(0);
        is("6: pour(0, 10, 9) learns one, and more later", y.pour(0, 10, 9), 4);
        BookDroplets z = Books.book(0, 1);
        is("6: pour of an empty book", z.pour(0, 0, 1), NOT_POSSIBLE);
        is("6: bad pour of an empty book", z.pour(0, 0, 100), BAD_VALUE);
        is("6: pour of an empty book into no cup", z.pour(1, 0, 100), NO_SUCH);
    }

    private static void p06PourWithoutRoom() {
        BookDroplets x = Books.book(4, 1);
        for (int i = 0; i < 24; i++) {
            is("6: droplet " + i + " is kept", x.pour(0, 0, 1), 0);
        }
        is("6: keeps 24", x.ofCup(0, 1), 24);
        is("6: none is useless", x.ofCup(0, 4), 0);
        is("6: would(0, 1) without room", x.would(0, 1), 1);
        is("6: would(0, 0) without room", x.would(0, 0), 1);
        x.pour(0, 1, 1);
        is("6: keeps 24 still", x.ofCup(0, 1), 24);
        is("6: one is useless", x.ofCup(0, 4), 1);
        is("6: last kept", x.kept(0, 23, 0), 0b0101);
        is("6: kept(0, 24, 0)", x.kept(0, 24, 0), NO_SUCH);
        is("6: would(0, 10) without room", x.would(0, 10), 4);
        is("6: a chapter needs no room", x.pour(0, 10, 1), 2);
        is("6: droplets that bring nothing later are away", x.ofCup(0, 1), 0);
        is("6: and do not count as useless", x.ofCup(0, 4), 1);
        is("6: known(0, 0)", x.known(0, 0), 1);
        is("6: known(0, 2)", x.known(0, 2), 4);
    }

    private static void p06Lost() {
        BookDroplets x = Books.book(4, 1);
        x.set(1, 50);
        is("6: seed 1 is lost", x.pour(0, 1, 1), 0);
        is("6: seed 2 is lost", x.pour(0, 2, 1), 0);
        is("6: seed 0 is not", x.pour(0, 0, 1), 0);
        is("6: lost", x.ofCup(0, 3), 2);
        is("6: poured", x.ofCup(0, 2), 3);
        is("6: keeps", x.ofCup(0, 1), 1);
        is("6: useless", x.ofCup(0, 4), 0);
        is("6: all poured", x.count(3), 3);
    }

    private static void p06Peeling() {
        BookDroplets x = new BookDroplets();
        for (int number : new int[] {100, 7, 65535, 4096}) {
            x.chapter(number);
        }
        x.cup();
        // {0, 2}, {0, 1, 3}, {1, 3} and {1, 2, 3} wait, until chapter 3 comes
        pourAll(x, 0, 0, 1, 5, 9);
        is("6: kept(0, 1, 1)", x.kept(0, 1, 1), 100 ^ 7 ^ 4096);
        is("6: kept(0, 3, 0)", x.kept(0, 3, 0), 0b1110);
        is("6: pour(0, 12, 1) learns all", x.pour(0, 12, 1), 4);
        int[] due = {100, 7, 65535, 4096};
        for (int i = 0; i < due.length; i++) {
            is("6: known(0, " + i + ")", x.known(0, i), due[i]);
        }
        is("6: keeps", x.ofCup(0, 1), 0);
        is("6: useless", x.ofCup(0, 4), 0);
        // the ones that stay keep their order
        x.cup();
        pourAll(x, 1, 4, 5, 6, 1, 2);
        is("6: known by cup 1", x.ofCup(1, 0), 0b1111);
        x.cup();
        pourAll(x, 2, 0, 5, 4, 2);
        is("6: cup 2 knows", x.ofCup(2, 0), 0b1010);
        is("6: cup 2 keeps", x.ofCup(2, 1), 2);
        is("6: kept(2, 0, 0)", x.kept(2, 0, 0), 0b0101);
        is("6: kept(2, 1, 0)", x.kept(2, 1, 0), 0b0101);
        is("6: kept(2, 1, 1)", x.kept(2, 1, 1), 100 ^ 65535);
    }

    private static void p07Solve() {
        BookDroplets x = new BookDroplets();
        for (int number : new int[] {100, 7, 65535, 4096}) {
            x.chapter(number);
        }
        x.cup();
        is("7: solve(-1)", x.solve(-1), NO_SUCH);
        is("7: solve(1)", x.solve(1), NO_SUCH);
        // {0, 2} + {0, 1, 3} + {1, 2, 3} are nothing; {0, 3} + {0, 1, 3} are chapter 1, and so on
        pourAll(x, 0, 0, 1, 9);
        is("7: solve(0) of too few", x.solve(0), 0);
        is("7: keeps three", x.ofCup(0, 1), 3);
        x.pour(0, 6, 1);
        is("7: could be known", x.ofCup(0, 6), 1);
        is("7: solve(0) of chapter 1", x.solve(0), 1);
        is("7: known(0, 1)", x.known(0, 1), 7);
        is("7: the last two are the same now", x.ofCup(0, 1), 4);
        is("7: kept(0, 1, 0)", x.kept(0, 1, 0), 0b1001);
        is("7: kept(0, 1, 1)", x.kept(0, 1, 1), 100 ^ 4096);
        is("7: kept(0, 2, 0)", x.kept(0, 2, 0), 0b1100);
        is("7: kept(0, 2, 1)", x.kept(0, 2, 1), 65535 ^ 4096);
        is("7: kept(0, 3, 0)", x.kept(0, 3, 0), 0b1001);
        x.pour(0, 11, 1);
        is("7: could be known by all", x.ofCup(0, 6), 4);
        is("7: nothing was learnt by that", x.ofCup(0, 0), 0b0010);
        is("7: solve(0) of the rest", x.solve(0), 3);
        is("7: keeps none", x.ofCup(0, 1), 0);
        is("7: known(0, 0)", x.known(0, 0), 100);
        is("7: known(0, 2)", x.known(0, 2), 65535);
        is("7: known(0, 3)", x.known(0, 3), 4096);
        is("7: useless", x.ofCup(0, 4), 0);
        is("7: solve(0) of a full cup", x.solve(0), 0);
        x.undo();
        x.undo();
        is("7: known after undo", x.ofCup(0, 0), 0b0010);
        is("7: keeps after undo", x.ofCup(0, 1), 5);
    }

    private static void p07SolveNothing() {
        BookDroplets x = Books.book(0, 1);
        is("7: solve(0) of an empty book", x.solve(0), 0);
        is("7: it is a change", x.count(CHANGES), 2);
        BookDroplets y = Books.book(3, 1);
        is("7: solve(0) of an empty cup", y.solve(0), 0);
        is("7: it is a change there, too", y.count(CHANGES), 5);
    }

    private static void p08Droplet() {
        BookDroplets x = new BookDroplets();
        is("8: droplet(0, 0) of an empty book", x.droplet(0, 0), NOT_POSSIBLE);
        is("8: droplet(-1, 0) of an empty book", x.droplet(-1, 0), BAD_VALUE);
        is("8: droplet(0, 4) of an empty book", x.droplet(0, 4), BAD_VALUE);
        for (int number : new int[] {100, 7, 65535, 4096}) {
            x.chapter(number);
        }
        is("8: droplet(-1, 0)", x.droplet(-1, 0), BAD_VALUE);
        is("8: droplet(65536, 0)", x.droplet(65536, 0), BAD_VALUE);
        is("8: droplet(0, -1)", x.droplet(0, -1), BAD_VALUE);
        is("8: droplet(0, 4)", x.droplet(0, 4), BAD_VALUE);
        is("8: droplet(1, 0)", x.droplet(1, 0), 3);
        is("8: droplet(1, 1)", x.droplet(1, 1), 0b1011);
        is("8: droplet(1, 2)", x.droplet(1, 2), 100 ^ 7 ^ 4096);
        is("8: droplet(65535, 0)", x.droplet(65535, 0), 2);
        is("8: droplet(65535, 1)", x.droplet(65535, 1), 0b1010);
        is("8: droplet(65535, 2)", x.droplet(65535, 2), 7 ^ 4096);
        // the first draws of the seeds 0 and 1 are 74 and 149
        x.set(1, 49);
        is("8: droplet(1, 3) at 49 of a hundred", x.droplet(1, 3), 0);
        x.set(1, 50);
        is("8: droplet(1, 3) at 50 of a hundred", x.droplet(1, 3), 1);
        is("8: droplet(0, 3) at 50 of a hundred", x.droplet(0, 3), 0);
        is("8: droplet(1, 1) of a lost one", x.droplet(1, 1), 0b1011);
        is("8: nothing is poured", x.count(3), 0);
    }

    private static void p08Ways() {
        BookDroplets x = Books.book(4, 0);
        int[] setsOfWay0 = {1, 3, 14, 15, 4, 10, 11, 15, 2, 6, 13, 13};
        int[] setsOfWay1 = {5, 11, 2, 5, 15, 10, 9, 15, 10, 14, 4, 13, 8};
        x.set(0, 0);
        for (int seed = 0; seed < setsOfWay0.length; seed++) {
            is("8: WAY 0, droplet(" + seed + ", 1)", x.droplet(seed, 1), setsOfWay0[seed]);
            is("8: WAY 0, droplet(" + seed + ", 0)", x.droplet(seed, 0), Integer.bitCount(setsOfWay0[seed]));
        }
        x.set(0, 1);
        for (int seed = 0; seed < setsOfWay1.length; seed++) {
            is("8: WAY 1, droplet(" + seed + ", 1)", x.droplet(seed, 1), setsOfWay1[seed]);
        }
        BookDroplets wide = Books.book(16, 0);
        int[] degrees = {1, 1, 1, 1, 2, 2, 2, 2, 2, 2, 2, 2, 2, 2, 2, 2, 3, 3, 3, 3, 4, 4, 4, 4};
        for (int seed = 0; seed < 200; seed++) {
            int second = (75 * ((75 * seed + 74) % 65537) + 74) % 65537;
            is("8: WAY 1, droplet(" + seed + ", 0) of sixteen", wide.droplet(seed, 0), degrees[second % 24]);
        }
        // the second draw is 5624 and 5625 times the seed more: a multiple of 4 for every fourth seed
        x.set(0, 2);
        for (int seed = 0; seed < 8; seed++) {
            is("8: WAY 2, droplet(" + seed + ", 0)", x.droplet(seed, 0), seed % 4 == 0 ? 1 : 4);
        }
        is("8: WAY 2, droplet(0, 1)", x.droplet(0, 1), 1);
        is("8: WAY 2, droplet(1, 1)", x.droplet(1, 1), 15);
        BookDroplets y = Books.book(2, 0);
        is("8: WAY 1 of two chapters has no more", y.droplet(4, 0), 2);
        BookDroplets z = Books.book(1, 0);
        for (int way = 0; way <= 2; way++) {
            z.set(0, way);
            is("8: WAY " + way + " of one chapter, droplet(1, 0)", z.droplet(1, 0), 1);
            is("8: WAY " + way + " of one chapter, droplet(1, 1)", z.droplet(1, 1), 1);
        }
        BookDroplets big = Books.book(16, 0);
        big.set(0, 2);
        is("8: droplet of all sixteen", big.droplet(1, 1), 65535);
    }

    private static void p09OfCup() {
        BookDroplets x = Books.book(4, 1);
        is("9: ofCup(-1, 0)", x.ofCup(-1, 0), NO_SUCH);
        is("9: ofCup(1, 0)", x.ofCup(1, 0), NO_SUCH);
        is("9: ofCup(1, 7)", x.ofCup(1, 7), NO_SUCH);
        is("9: ofCup(0, -1)", x.ofCup(0, -1), BAD_VALUE);
        is("9: ofCup(0, 7)", x.ofCup(0, 7), BAD_VALUE);
        x.set(1, 25);
        // lost are 2, 6 and 10; 0 and 3 are the same, and so are 4 and 7, 5 and 8
        x.pour(0, 0, 12);
        is("9: known", x.ofCup(0, 0), 0);
        is("9: kept", x.ofCup(0, 1), 9);
        is("9: poured", x.ofCup(0, 2), 12);
        is("9: lost", x.ofCup(0, 3), 3);
        is("9: useless", x.ofCup(0, 4), 0);
        is("9: full", x.ofCup(0, 5), 0);
        is("9: by solving", x.ofCup(0, 6), 4);
        x.pour(0, 12, 1);
        is("9: known then", x.ofCup(0, 0), 15);
        is("9: kept then", x.ofCup(0, 1), 0);
        is("9: useless then", x.ofCup(0, 4), 0);
        is("9: full then", x.ofCup(0, 5), 1);
        is("9: by solving then", x.ofCup(0, 6), 4);
        x.pour(0, 0, 1);
        is("9: useless at the end", x.ofCup(0, 4), 1);
        BookDroplets y = Books.book(4, 1);
        pourAll(y, 0, 2, 9, 6);
        is("9: those that it knows count, too", y.ofCup(0, 6), 1);
        is("9: asking changes nothing", y.ofCup(0, 1), 2);
    }

    private static void p10Known() {
        BookDroplets x = new BookDroplets();
        x.chapter(0);
        x.chapter(65535);
        x.cup();
        is("10: known(-1, 0)", x.known(-1, 0), NO_SUCH);
        is("10: known(1, 0)", x.known(1, 0), NO_SUCH);
        is("10: known(0, -1)", x.known(0, -1), NO_SUCH);
        is("10: known(0, 2)", x.known(0, 2), NO_SUCH);
        is("10: known(0, 16)", x.known(0, 16), NO_SUCH);
        is("10: known(0, MAX)", x.known(0, Integer.MAX_VALUE), NO_SUCH);
        is("10: known(0, 0)", x.known(0, 0), NONE);
        // with two chapters seed 10 has chapter 0 alone, and seed 2 chapter 1
        x.pour(0, 10, 1);
        is("10: known(0, 0) then", x.known(0, 0), 0);
        is("10: known(0, 1)", x.known(0, 1), NONE);
        x.pour(0, 2, 1);
        is("10: known(0, 1) then", x.known(0, 1), 65535);
        BookDroplets y = Books.book(16, 1);
        is("10: known(0, 15)", y.known(0, 15), NONE);
        is("10: known(0, 16) of a full book", y.known(0, 16), NO_SUCH);
        y.set(0, 2);
        y.pour(0, 0, 99);
        is("10: known(0, 15) then", y.known(0, 15), 1 << 15);
    }

    private static void p11Kept() {
        BookDroplets x = Books.book(4, 1);
        is("11: kept(-1, 0, 0)", x.kept(-1, 0, 0), NO_SUCH);
        is("11: kept(1, 0, 0)", x.kept(1, 0, 0), NO_SUCH);
        is("11: kept(0, 0, 0)", x.kept(0, 0, 0), NO_SUCH);
        is("11: kept(0, 0, 2)", x.kept(0, 0, 2), NO_SUCH);
        pourAll(x, 0, 0, 1);
        is("11: kept(0, 0, 0) then", x.kept(0, 0, 0), 0b0101);
        is("11: kept(0, 0, 1) then", x.kept(0, 0, 1), 0b0101);
        is("11: kept(0, 1, 0)", x.kept(0, 1, 0), 0b1011);
        is("11: kept(0, 1, 1)", x.kept(0, 1, 1), 0b1011);
        is("11: kept(0, 2, 0)", x.kept(0, 2, 0), NO_SUCH);
        is("11: kept(0, -1, 0)", x.kept(0, -1, 0), NO_SUCH);
        is("11: kept(0, MAX, 0)", x.kept(0, Integer.MAX_VALUE, 0), NO_SUCH);
        is("11: kept(0, 0, 2) then", x.kept(0, 0, 2), BAD_VALUE);
        is("11: kept(0, 0, -1)", x.kept(0, 0, -1), BAD_VALUE);
        is("11: kept(0, 2, 2)", x.kept(0, 2, 2), NO_SUCH);
    }

    private static void p12Count() {
        BookDroplets x = Books.book(4, 0);
        is("12: count(-1)", x.count(-1), BAD_VALUE);
        is("12: count(8)", x.count(8), BAD_VALUE);
        for (int i = 0; i < 3; i++) {
            x.cup();
        }
        is("12: chapters", x.count(0), 4);
        is("12: cups", x.count(1), 3);
        is("12: no full cups", x.count(2), 0);
        x.pour(2, 0, 24);
        is("12: the last cup is full", x.count(2), 0b100);
        x.pour(0, 0, 24);
        is("12: two cups are full", x.count(2), 0b101);
        x.pour(1, 0, 1);
        is("12: poured into all", x.count(3), 49);
        x.set(0, 2);
        x.set(1, 7);
        is("12: WAY", x.count(4), 2);
        is("12: LOSS", x.count(5), 7);
        Due.type(x, "u;s0");
        is("12: pad", x.count(6), 4);
        is("12: changes", x.count(7), 6);
        BookDroplets y = Books.book(0, 1);
        y.cup();
        is("12: cups of an empty book are full", y.count(2), 0b11);
    }

    private static void p13Would() {
        BookDroplets x = Books.book(4, 1);
        is("13: would(-1, 0)", x.would(-1, 0), NO_SUCH);
        is("13: would(1, -1)", x.would(1, -1), NO_SUCH);
        is("13: would(0, -1)", x.would(0, -1), BAD_VALUE);
        is("13: would(0, 65536)", x.would(0, 65536), BAD_VALUE);
        is("13: would(0, 0) is kept", x.would(0, 0), 2);
        is("13: would(0, 2) is learnt", x.would(0, 2), 3);
        pourAll(x, 0, 0, 1, 5, 9);
        is("13: would(0, 12) brings all", x.would(0, 12), 6);
        is("13: nothing is poured", x.count(3), 4);
        is("13: nothing is learnt", x.ofCup(0, 0), 0);
        is("13: nothing is taken away", x.ofCup(0, 1), 4);
        is("13: no change", x.count(CHANGES), 6);
        x.pour(0, 12, 1);
        is("13: would(0, 0) of a full cup", x.would(0, 0), 1);
        is("13: nothing useless was poured", x.ofCup(0, 4), 0);
        x.set(1, 75);
        is("13: would(0, 0) of a lost one", x.would(0, 0), 0);
        is("13: would(0, 3) of one that is not lost", x.would(0, 3), 1);
        BookDroplets y = Books.book(0, 1);
        is("13: would(0, 0) of an empty book", y.would(0, 0), NOT_POSSIBLE);
        is("13: would(0, 65536) of an empty book", y.would(0, 65536), BAD_VALUE);
        is("13: would(1, 0) of an empty book", y.would(1, 0), NO_SUCH);
    }

    private static void p14Needs() {
        BookDroplets x = Books.book(4, 1);
        is("14: needs(-1, 0)", x.needs(-1, 0), NO_SUCH);
        is("14: needs(1, -1)", x.needs(1, -1), NO_SUCH);
        is("14: needs(0, -1)", x.needs(0, -1), BAD_VALUE);
        is("14: needs(0, 65536)", x.needs(0, 65536), BAD_VALUE);
        // {0, 2}, {0, 1, 3}, {1}, {0, 2}, {0, 1, 2, 3}, {1, 3}: the last one learns 3, and so all
        is("14: needs(0, 0)", x.needs(0, 0), 6);
        is("14: needs(0, 65535) goes on at 0", x.needs(0, 65535), 4);
        is("14: nothing is poured", x.count(3), 0);
        is("14: nothing is kept", x.ofCup(0, 1), 0);
        pourAll(x, 0, 0, 1, 2);
        is("14: needs(0, 5)", x.needs(0, 5), 1);
        x.pour(0, 5, 1);
        is("14: needs(0, 0) of a full cup", x.needs(0, 0), 0);
        BookDroplets y = Books.book(0, 1);
        is("14: needs(0, 0) of an empty book", y.needs(0, 0), NOT_POSSIBLE);
        is("14: needs(0, -1) of an empty book", y.needs(0, -1), BAD_VALUE);
        is("14: needs(1, 0) of an empty book", y.needs(1, 0), NO_SUCH);
    }

    /** With one chapter a cup needs all droplets up to the first one that is not lost. */
    private static void p14NeedsEdges() {
        BookDroplets x = Books.book(1, 1);
        x.set(1, 99);
        int arrives = firstAfterManyLost(600);
        is("14: the one that arrives", x.needs(0, arrives), 1);
        is("14: lost ones count, too", x.needs(0, arrives - 9), 10);
        is("14: 499 are lost", x.needs(0, arrives - 499), 500);
        is("14: 500 are lost", x.needs(0, arrives - 500), NONE);
        is("14: 501 are lost", x.needs(0, arrives - 501), NONE);
        BookDroplets y = Books.book(4, 1);
        pourAll(y, 0, 0, 1, 9, 6, 11);
        is("14: all could be known by solving", y.ofCup(0, 6), 4);
        is("14: but a cup is not solved for it", y.needs(0, 12), 1);
    }

    private static int firstAfterManyLost(int many) {
        int lost = 0;
        for (int seed = 0; seed < 65536; seed++) {
            boolean arrives = (75 * seed + 74) % 65537 % 100 == 99;
            if (arrives && lost >= many) {
                return seed;
            }
            lost = arrives ? 0 : lost + 1;
        }
        throw new IllegalStateException("no such row of droplets");
    }

    private static void p15Degrees() {
        BookDroplets x = new BookDroplets();
        is("15: degrees(0, 1, 1) of an empty book", x.degrees(0, 1, 1), NOT_POSSIBLE);
        is("15: degrees(0, 0, 1) of an empty book", x.degrees(0, 0, 1), BAD_VALUE);
        for (int i = 0; i < 4; i++) {
            x.chapter(i);
        }
        is("15: degrees(-1, 1, 1)", x.degrees(-1, 1, 1), BAD_VALUE);
        is("15: degrees(65536, 1, 1)", x.degrees(65536, 1, 1), BAD_VALUE);
        is("15: degrees(0, 0, 1)", x.degrees(0, 0, 1), BAD_VALUE);
        is("15: degrees(0, 1000, 1)", x.degrees(0, 1000, 1), BAD_VALUE);
        is("15: degrees(0, 1, 0)", x.degrees(0, 1, 0), BAD_VALUE);
        is("15: degrees(0, 1, 17)", x.degrees(0, 1, 17), BAD_VALUE);
        is("15: degrees(0, 13, 1)", x.degrees(0, 13, 1), 3);
        is("15: degrees(0, 13, 2)", x.degrees(0, 13, 2), 5);
        is("15: degrees(0, 13, 3)", x.degrees(0, 13, 3), 3);
        is("15: degrees(0, 13, 4)", x.degrees(0, 13, 4), 2);
        is("15: degrees(0, 13, 16)", x.degrees(0, 13, 16), 0);
        is("15: degrees(65535, 1, 2)", x.degrees(65535, 1, 2), 1);
        is("15: degrees(65535, 4, 1) goes on at 0", x.degrees(65535, 4, 1), 1);
        x.set(1, 99);
        is("15: lost ones count, too", x.degrees(0, 13, 2), 5);
        int all = 0;
        for (int degree = 1; degree <= 16; degree++) {
            all += x.degrees(65000, 999, degree);
        }
        is("15: each of 999 has a degree", all, 999);
    }

    private static void p16Put() {
        BookDroplets x = new BookDroplets();
        is("16: put(0)", x.put(0), BAD_VALUE);
        is("16: put(' ')", x.put(32), BAD_VALUE);
        is("16: put(127)", x.put(127), BAD_VALUE);
        is("16: put(255)", x.put(255), BAD_VALUE);
        is("16: put(-1)", x.put(-1), BAD_VALUE);
        is("16: put(Long.MIN_VALUE)", x.put(Long.MIN_VALUE), BAD_VALUE);
        is("16: put of a gap", x.put('u' << 16 | 'u'), BAD_VALUE);
        is("16: put of no last one", x.put('u' << 8), BAD_VALUE);
        is("16: put of a far bit", x.put(1L << 63 | 'u'), BAD_VALUE);
        is("16: put of a bad first one", x.put(32L << 56 | Due.packed("1234567")), BAD_VALUE);
        is("16: put('!')", x.put(33), 1);
        is("16: put('~')", x.put(126), 2);
        is("16: put of eight", x.put(Due.packed("~~~~~~~!")), 10);
        x.wipe();
        is("16: put(\"s0\")", x.put('s' << 8 | '0'), 2);
        is("16: the characters stand in their order", x.fault(), NONE);
        is("16: put(\";u\")", x.put(Due.packed(";u")), 4);
        is("16: behind the others", x.fault(), NONE);
        x.wipe();
        for (int i = 8; i <= 72; i += 8) {
            is("16: put up to " + i, x.put(Due.packed("u;u;u;u;")), i);
        }
        is("16: put up to 79", x.put(Due.packed("u;u;u;u")), 79);
        is("16: put up to 81", x.put(Due.packed(";u")), TOO_MANY);
        is("16: a bad put up to 81", x.put(Due.packed("; ")), BAD_VALUE);
        is("16: nothing was put", x.count(6), 79);
        is("16: put up to 80", x.put(';'), 80);
        is("16: put up to 81, of one", x.put('u'), TOO_MANY);
        is("16: the text is as it was put", x.fault(), 80);
        is("16: no change", x.count(CHANGES), 0);
    }

    private static void p17Wipe() {
        BookDroplets x = new BookDroplets();
        is("17: wipe() of an empty pad", x.wipe(), 0);
        Due.type(x, "c12345;u");
        is("17: wipe()", x.wipe(), 8);
        is("17: length", x.count(6), 0);
        is("17: fault()", x.fault(), 0);
        is("17: wipe() again", x.wipe(), 0);
        is("17: no change", x.count(CHANGES), 0);
        Due.type(x, "u");
        is("17: only the new text is there", x.fault(), NONE);
        is("17: carryOut()", x.carryOut(), 1);
        is("17: cups", x.count(1), 1);
    }

    private static void p18Fault() {
        Object[][] texts = {
            {"", 0}, {"u", NONE}, {"c0", NONE}, {"c65535", NONE}, {"s0", NONE}, {"s9", NONE}, {"p0.0", NONE},
            {"p9.65535*65535", NONE}, {"p1.2*0", NONE}, {"u;c5;s3;p2.7;p2.7*30", NONE},
            {"c", 1}, {"s", 1}, {"p", 1}, {"p1", 2}, {"p1.", 3}, {"p1.5*", 5}, {"u;", 2}, {"c5;", 3}, {"p0.1*9;", 7},
            {"x", 0}, {"U", 0}, {";", 0}, {";u", 0}, {"1", 0}, {"u;;u", 2}, {"uu", 1}, {"u1", 1}, {"u,u", 1},
            {"c05", 2}, {"c00", 2}, {"c-1", 1}, {"c65536", 5}, {"c65540", 5}, {"c66000", 5}, {"c70000", 5},
            {"c100000", 6}, {"c655350", 6}, {"c5*3", 2}, {"c5.3", 2}, {"cu", 1}, {"c5u", 2}, {"c;", 1},
            {"s10", 2}, {"s;", 1}, {"s1*2", 2}, {"su", 1}, {"p.1", 1}, {"p10.1", 2}, {"p1*1", 2}, {"p1.*", 3},
            {"p1.05", 4}, {"p1.65536", 7}, {"p1.5*05", 6}, {"p1.5*65536", 9}, {"p1.5*3*2", 6}, {"p1.5.3", 4},
            {"p1.5**3", 5}, {"p1.5*;", 5}, {"p1.0*0;c00;x", 9}, {"c99999", 5}, {"c9999999999", 5},
        };
        BookDroplets x = new BookDroplets();
        for (Object[] row : texts) {
            String text = (String) row[0];
            x.wipe();
            Due.type(x, text);
            is("18: fault() of " + text, x.fault(), (Integer) row[1]);
            is("18: length of " + text, x.count(6), text.length());
        }
        x.wipe();
        StringBuilder longest = new StringBuilder("u");
        while (longest.length() < 79) {
            longest.append(";u");
        }
        Due.type(x, longest.toString());
        is("18: fault() of 79", x.fault(), NONE);
        Due.type(x, "u");
        is("18: fault() of 80", x.fault(), 79);
    }

    private static void p19CarryOut() {
        BookDroplets x = new BookDroplets();
        is("19: carryOut() of an empty pad", x.carryOut(), BAD_TEXT);
        Due.type(x, "c1;c2;c4;c8;u;p0.0;p0.1;p0.5;p0.9;s0;");
        is("19: carryOut() of a fault", x.carryOut(), BAD_TEXT);
        is("19: the pad stays", x.count(6), 37);
        is("19: nothing is carried out", x.count(0), 0);
        is("19: that is no change", x.count(CHANGES), 0);
        Due.type(x, "p0.12");
        is("19: carryOut()", x.carryOut(), 11);
        is("19: the pad is empty", x.count(6), 0);
        is("19: chapters", x.count(0), 4);
        is("19: cups", x.count(1), 1);
        is("19: poured, one by one", x.count(3), 5);
        is("19: full", x.ofCup(0, 5), 1);
        is("19: one change", x.count(CHANGES), 1);
        is("19: undo()", x.undo(), 0);
        is("19: nothing is left", x.count(0) + x.count(1) + x.count(3), 0);
        is("19: the pad stays empty", x.count(6), 0);
        Due.type(x, "c1;c2;c4;c8;u;p0.0;p0.1;p0.6;p0.9;u;p1.65535*3");
        is("19: carryOut() again", x.carryOut(), 11);
        is("19: cup 1 got the droplets from 65535 on", x.ofCup(1, 2), 3);
        is("19: first of them", x.kept(1, 0, 0), 0b1010);
        is("19: second of them", x.kept(1, 1, 0), 0b0101);
        is("19: chapter 1 is not known", x.known(0, 1), NONE);
        Due.type(x, "s0");
        is("19: carryOut() of s0", x.carryOut(), 1);
        is("19: chapter 1 is known", x.known(0, 1), 2);
    }

    private static void p19CarryOutUpToAnError() {
        BookDroplets x = new BookDroplets();
        Due.type(x, "s0;u");
        is("19: first order fails", x.carryOut(), 0);
        is("19: no cup came", x.count(1), 0);
        is("19: a change all the same", x.count(CHANGES), 1);
        is("19: the pad is empty then", x.count(6), 0);
        Due.type(x, "c7;u;c8;u");
        is("19: chapter behind a cup fails", x.carryOut(), 2);
        is("19: one cup", x.count(1), 1);
        Due.type(x, "u;p0.0*100;u");
        is("19: 100 droplets fail", x.carryOut(), 1);
        is("19: nothing is poured", x.count(3), 0);
        Due.type(x, "p0.0*0");
        is("19: 0 droplets fail", x.carryOut(), 0);
        Due.type(x, "p0.0*99;p3.0");
        is("19: cup 3 fails", x.carryOut(), 1);
        is("19: 99 are poured", x.ofCup(0, 2), 99);
        Due.type(x, "u;u;u");
        is("19: a fourth cup fails", x.carryOut(), 1);
        is("19: six changes", x.count(CHANGES), 6);
        is("19: undo()", x.undo(), 5);
        is("19: two cups", x.count(1), 2);
        Due.type(x, "c65535");
        is("19: chapter fails", x.carryOut(), 0);
    }

    private static void p20Undo() {
        BookDroplets x = new BookDroplets();
        is("20: undo() of nothing", x.undo(), NOT_POSSIBLE);
        for (int i = 0; i < 8; i++) {
            x.chapter(i);
        }
        for (int i = 5; i >= 0; i--) {
            is("20: undo()", x.undo(), i);
            is("20: chapters", x.count(0), i + 2);
        }
        is("20: undo() of too many", x.undo(), NOT_POSSIBLE);
        is("20: chapters stay", x.count(0), 2);
        is("20: chapter(9)", x.chapter(9), 2);
        is("20: one can be undone", x.count(CHANGES), 1);
        is("20: undo() of one", x.undo(), 0);

        BookDroplets y = Books.book(4, 1);
        y.pour(0, 0, 3);
        y.set(0, 2);
        y.set(1, 60);
        Due.type(y, "u;u");
        y.save(0);
        y.pour(0, 0, 9);
        y.undo();
        is("20: poured", y.count(3), 3);
        is("20: poured into the cup", y.ofCup(0, 2), 3);
        is("20: lost", y.ofCup(0, 3), 0);
        is("20: kept", y.ofCup(0, 1), 2);
        is("20: the pad is as it is", y.count(6), 3);
        is("20: LOSS", y.count(5), 60);
        y.undo();
        is("20: LOSS before", y.count(5), 0);
        is("20: poured, before LOSS was set", y.count(3), 3);
        y.undo();
        is("20: WAY before", y.count(4), 1);
        is("20: poured, before WAY was set", y.count(3), 3);
        y.undo();
        is("20: nothing is known", y.known(0, 1), NONE);
        is("20: undo() up to the fourth chapter", y.undo(), 1);
        is("20: no cup", y.count(1), 0);
        is("20: the slot is as it is", y.restore(0), 1);
        is("20: known again", y.known(0, 1), 2);
    }

    private static void p20WhatIsAChange() {
        BookDroplets x = new BookDroplets();
        x.set(0, 1);
        is("20: set() of the same", x.count(CHANGES), 1);
        x.set(0, 9);
        x.chapter(-1);
        x.empty(0);
        x.pour(0, 0, 1);
        x.solve(0);
        x.carryOut();
        x.restore(0);
        is("20: errors are none", x.count(CHANGES), 1);
        x.chapter(5);
        x.save(0);
        x.put('u');
        x.wipe();
        x.fault();
        x.droplet(0, 0);
        x.degrees(0, 1, 1);
        is("20: only chapter() is one", x.count(CHANGES), 2);
        x.cup();
        x.would(0, 0);
        x.needs(0, 0);
        is("20: cup() is one", x.count(CHANGES), 3);
        x.empty(0);
        is("20: empty() is one", x.count(CHANGES), 4);
        x.solve(0);
        is("20: solve() is one", x.count(CHANGES), 5);
        x.pour(0, 0, 1);
        is("20: pour() is one", x.count(CHANGES), 6);
        x.undo();
        x.undo();
        x.restore(0);
        is("20: restore() is one", x.count(CHANGES), 5);
        x.put('u');
        x.carryOut();
        is("20: carryOut() is one", x.count(CHANGES), 6);
        x.undo();
        x.undo();
        is("20: cups before restore()", x.count(1), 1);
    }

    private static void p21Save() {
        BookDroplets x = Books.book(4, 1);
        is("21: save(-1)", x.save(-1), BAD_VALUE);
        is("21: save(2)", x.save(2), BAD_VALUE);
        is("21: save(0)", x.save(0), 1);
        x.cup();
        x.pour(0, 0, 3);
        is("21: save(1)", x.save(1), 2);
        x.cup();
        is("21: save(0) again", x.save(0), 3);
        is("21: no change", x.count(CHANGES), 6);
        is("21: restore(0)", x.restore(0), 3);
        is("21: restore(1)", x.restore(1), 2);
        is("21: known", x.known(0, 1), 2);
        BookDroplets y = new BookDroplets();
        is("21: save(1) of nothing", y.save(1), 0);
        is("21: restore(1) of nothing", y.restore(1), 0);
        is("21: restore(0) of none", y.restore(0), NOT_POSSIBLE);
    }

    private static void p22Restore() {
        BookDroplets x = Books.book(4, 1);
        is("22: restore(-1)", x.restore(-1), BAD_VALUE);
        is("22: restore(2)", x.restore(2), BAD_VALUE);
        is("22: restore(1)", x.restore(1), NOT_POSSIBLE);
        x.set(0, 2);
        x.set(1, 40);
        x.pour(0, 0, 5);
        int useless = x.ofCup(0, 4);
        int lost = x.ofCup(0, 3);
        x.save(1);
        x.set(0, 0);
        x.set(1, 0);
        x.empty(0);
        x.pour(0, 7, 20);
        x.cup();
        Due.type(x, "u;s0");
        is("22: restore(1) of one cup", x.restore(1), 1);
        is("22: cups", x.count(1), 1);
        is("22: WAY", x.count(4), 2);
        is("22: LOSS", x.count(5), 40);
        is("22: poured", x.count(3), 5);
        is("22: poured into the cup", x.ofCup(0, 2), 5);
        is("22: useless", x.ofCup(0, 4), useless);
        is("22: lost", x.ofCup(0, 3), lost);
        is("22: the pad stays", x.count(6), 4);
        is("22: the history stays", x.count(CHANGES), 6);
        x.pour(0, 9, 1);
        is("22: the slot keeps it", x.restore(1), 1);
        is("22: poured again", x.count(3), 5);
        is("22: undo()", x.undo(), 5);
        is("22: poured before", x.count(3), 6);
        x.undo();
        x.undo();
        is("22: cups before", x.count(1), 2);
        is("22: poured before that", x.count(3), 25);
        BookDroplets y = new BookDroplets();
        y.chapter(9);
        y.save(0);
        y.chapter(10);
        y.cup();
        is("22: restore(0) of a shorter book", y.restore(0), 0);
        is("22: chapters", y.count(0), 1);
        is("22: chapter(11)", y.chapter(11), 1);
        y.undo();
        y.undo();
        is("22: chapters before", y.count(0), 2);
        is("22: undo() of the cup", y.undo(), 2);
        is("22: chapter(12)", y.chapter(12), 2);
        y.save(1);
        y.undo();
        y.undo();
        y.chapter(20);
        y.chapter(24);
        y.restore(1);
        // with three chapters seed 1 has all of them
        is("22: the book's numbers", y.droplet(1, 2), 9 ^ 10 ^ 12);
    }
}
