import java.util.function.IntUnaryOperator;

/**
 * The ranges of all arguments: their ends are taken, what is one below or one above them is not, nor what is far
 * off; and the order of the errors, where two of them apply at once.
 */
public final class RangeTest {
    private static final int NO_SUCH = -1, BAD_VALUE = -2, BAD_TEXT = -3, TOO_MANY = -4, NOT_POSSIBLE = -5, NONE = -6;
    private static final int MOST_SEED = 65535;
    private static final int[] FAR = {Integer.MIN_VALUE, Integer.MIN_VALUE + 1, -65536, -256, 65536 * 2, 1 << 30, Integer.MAX_VALUE};

    public static void main(String[] args) {
        settings();
        chapters();
        cups();
        seeds();
        counts();
        whats();
        chaptersOfTheBook();
        ranks();
        slots();
        orderOfErrorsOfChanges();
        orderOfErrorsOfQuestions();
        noneIsNoError();
        Due.end();
    }

    /** An empty range is told by least 0 and most -1. */
    private static void range(String call, int error, int least, int most, IntUnaryOperator asked) {
        for (int value : FAR) {
            Due.is(call + " with " + value, asked.applyAsInt(value), error);
        }
        Due.is(call + " with " + (least - 1), asked.applyAsInt(least - 1), error);
        Due.is(call + " with " + (most + 1), asked.applyAsInt(most + 1), error);
        for (int value = least; value <= most; value += Math.max(1, most - least)) {
            int answer = asked.applyAsInt(value);
            Due.is(call + " with " + value + " answered " + answer, answer >= 0 || answer == NONE ? 1 : 0, 1);
        }
    }

    private static void settings() {
        range("set(v, 0)", BAD_VALUE, 0, 1, v -> Books.book(0, 0).set(v, 0));
        range("set(WAY, v)", BAD_VALUE, 0, 2, v -> Books.book(0, 0).set(0, v));
        range("set(LOSS, v)", BAD_VALUE, 0, 99, v -> Books.book(0, 0).set(1, v));
    }

    private static void chapters() {
        range("chapter(v)", BAD_VALUE, 0, 65535, v -> Books.book(0, 0).chapter(v));
        range("chapter(v), the sixteenth", BAD_VALUE, 0, 65535, v -> Books.book(15, 0).chapter(v));
    }

    /** With no cup, with one, with two and with three. */
    private static void cups() {
        for (int many = 0; many <= 3; many++) {
            int cups = many;
            int most = many - 1;
            String of = " of " + many + " cups";
            range("empty(v)" + of, NO_SUCH, 0, most, v -> Books.book(4, cups).empty(v));
            range("pour(v, 0, 1)" + of, NO_SUCH, 0, most, v -> Books.book(4, cups).pour(v, 0, 1));
            range("solve(v)" + of, NO_SUCH, 0, most, v -> Books.book(4, cups).solve(v));
            range("ofCup(v, 0)" + of, NO_SUCH, 0, most, v -> Books.book(4, cups).ofCup(v, 0));
            range("known(v, 0)" + of, NO_SUCH, 0, most, v -> Books.book(4, cups).known(v, 0));
            range("would(v, 0)" + of, NO_SUCH, 0, most, v -> Books.book(4, cups).would(v, 0));
            range("needs(v, 0)" + of, NO_SUCH, 0, most, v -> Books.book(4, cups).needs(v, 0));
            range("kept(v, 0, 0)" + of, NO_SUCH, 0, most, v -> {
                BookDroplets x = Books.book(4, cups);
                for (int i = 0; i < cups; i++) {
                    x.pour(i, 0, 1);
                }
                return x.kept(v, 0, 0);
            });
        }
    }

    private static void seeds() {
        range("pour(0, v, 1)", BAD_VALUE, 0, MOST_SEED, v -> Books.book(4, 1).pour(0, v, 1));
        range("droplet(v, 0)", BAD_VALUE, 0, MOST_SEED, v -> Books.book(4, 0).droplet(v, 0));
        range("would(0, v)", BAD_VALUE, 0, MOST_SEED, v -> Books.book(4, 1).would(0, v));
        range("needs(0, v)", BAD_VALUE, 0, MOST_SEED, v -> Books.book(4, 1).needs(0, v));
        range("degrees(v, 1, 1)", BAD_VALUE, 0, MOST_SEED, v -> Books.book(4, 0).degrees(v, 1, 1));
    }

    private static void counts() {
        range("pour(0, 0, v)", BAD_VALUE, 1, 99, v -> Books.book(4, 1).pour(0, 0, v));
        range("pour(0, 65535, v)", BAD_VALUE, 1, 99, v -> Books.book(4, 1).pour(0, MOST_SEED, v));
        range("degrees(0, v, 1)", BAD_VALUE, 1, 999, v -> Books.book(4, 0).degrees(0, v, 1));
        range("degrees(65535, v, 1)", BAD_VALUE, 1, 999, v -> Books.book(4, 0).degrees(MOST_SEED, v, 1));
        range("degrees(0, 1, v) of four chapters", BAD_VALUE, 1, 16, v -> Books.book(4, 0).degrees(0, 1, v));
        range("degrees(0, 1, v) of sixteen", BAD_VALUE, 1, 16, v -> Books.book(16, 0).degrees(0, 1, v));
    }

    private static void whats() {
        range("droplet(0, v)", BAD_VALUE, 0, 3, v -> Books.book(4, 0).droplet(0, v));
        range("ofCup(0, v)", BAD_VALUE, 0, 6, v -> Books.book(4, 1).ofCup(0, v));
        range("ofCup(0, v) of an empty book", BAD_VALUE, 0, 6, v -> Books.book(0, 1).ofCup(0, v));
        range("count(v)", BAD_VALUE, 0, 7, v -> Books.book(4, 1).count(v));
        range("kept(0, 0, v)", BAD_VALUE, 0, 1, v -> {
            BookDroplets x = Books.book(4, 1);
            x.pour(0, 0, 1);
            return x.kept(0, 0, v);
        });
    }

    private static void chaptersOfTheBook() {
        for (int many = 0; many <= 16; many++) {
            int chapters = many;
            range("known(0, v) of " + many, NO_SUCH, 0, many - 1, v -> Books.book(chapters, 1).known(0, v));
        }
    }

    /** Seed 0 has two of four chapters, so that it is kept as often as it is poured. */
    private static void ranks() {
        for (int many : new int[] {0, 1, 2, 23, 24}) {
            range("kept(0, v, 0) of " + many, NO_SUCH, 0, many - 1, v -> {
                BookDroplets x = Books.book(4, 1);
                for (int i = 0; i < many; i++) {
                    x.pour(0, 0, 1);
                }
                return x.kept(0, v, 0);
            });
        }
    }

    private static void slots() {
        range("save(v)", BAD_VALUE, 0, 1, v -> Books.book(4, 1).save(v));
        range("restore(v)", BAD_VALUE, 0, 1, v -> {
            BookDroplets x = Books.book(4, 1);
            x.save(0);
            x.save(1);
            return x.restore(v);
        });
        for (int slot = 0; slot <= 1; slot++) {
            BookDroplets x = Books.book(4, 2);
            x.save(1 - slot);
            Due.is("restore(" + slot + "), the other slot is saved", x.restore(slot), NOT_POSSIBLE);
            Due.is("restore(" + (1 - slot) + ")", x.restore(1 - slot), 2);
        }
    }

    private static void orderOfErrorsOfChanges() {
        Due.is("set: no such setting, no such value", Books.book(0, 0).set(2, 100), BAD_VALUE);
        Due.is("chapter: bad, a cup, sixteen", Books.book(16, 1).chapter(65536), BAD_VALUE);
        Due.is("chapter: bad, a cup", Books.book(1, 1).chapter(-1), BAD_VALUE);
        Due.is("chapter: bad, sixteen", Books.book(16, 0).chapter(-1), BAD_VALUE);
        Due.is("chapter: a cup, sixteen", Books.book(16, 1).chapter(0), NOT_POSSIBLE);
        Due.is("chapter: sixteen", Books.book(16, 0).chapter(0), TOO_MANY);
        Due.is("pour: no cup, bad seed, bad many, empty", Books.book(0, 0).pour(0, -1, 0), NO_SUCH);
        Due.is("pour: no cup, bad seed", Books.book(4, 0).pour(0, 65536, 1), NO_SUCH);
        Due.is("pour: no cup, bad many", Books.book(4, 0).pour(0, 0, 100), NO_SUCH);
        Due.is("pour: no cup, empty", Books.book(0, 0).pour(0, 0, 1), NO_SUCH);
        Due.is("pour: bad seed, empty", Books.book(0, 1).pour(0, 65536, 1), BAD_VALUE);
        Due.is("pour: bad many, empty", Books.book(0, 1).pour(0, 0, 100), BAD_VALUE);
        Due.is("pour: empty", Books.book(0, 1).pour(0, 0, 1), NOT_POSSIBLE);
        Due.is("solve: no cup, empty", Books.book(0, 0).solve(0), NO_SUCH);
        Due.is("empty: no cup, empty", Books.book(0, 0).empty(0), NO_SUCH);
        Due.is("restore: no slot, nothing saved", Books.book(0, 0).restore(2), BAD_VALUE);
        BookDroplets x = new BookDroplets();
        for (int i = 0; i < 10; i++) {
            x.put(Due.packed("u;u;u;u;"));
        }
        Due.is("put: no character, no room", x.put(0), BAD_VALUE);
        Due.is("put: bad character, no room", x.put(32), BAD_VALUE);
        Due.is("put: no room", x.put('u'), TOO_MANY);
        Due.is("carryOut: a fault", x.carryOut(), BAD_TEXT);
    }

    private static void orderOfErrorsOfQuestions() {
        Due.is("droplet: bad seed, empty", Books.book(0, 0).droplet(65536, 0), BAD_VALUE);
        Due.is("droplet: bad what, empty", Books.book(0, 0).droplet(0, 4), BAD_VALUE);
        Due.is("droplet: empty", Books.book(0, 0).droplet(0, 0), NOT_POSSIBLE);
        Due.is("ofCup: no cup, bad what", Books.book(4, 1).ofCup(1, 7), NO_SUCH);
        Due.is("kept: no cup, bad what", Books.book(4, 1).kept(1, 0, 2), NO_SUCH);
        Due.is("kept: no such rank, bad what", Books.book(4, 1).kept(0, 0, 2), NO_SUCH);
        for (int cups = 0; cups <= 1; cups++) {
            int bad = cups == 0 ? NO_SUCH : BAD_VALUE;
            int none = cups == 0 ? NO_SUCH : NOT_POSSIBLE;
            String of = " of " + cups + " cups";
            Due.is("would: bad seed, empty" + of, Books.book(0, cups).would(0, 65536), bad);
            Due.is("would: bad seed" + of, Books.book(4, cups).would(0, 65536), bad);
            Due.is("would: empty" + of, Books.book(0, cups).would(0, 0), none);
            Due.is("needs: bad seed, empty" + of, Books.book(0, cups).needs(0, -1), bad);
            Due.is("needs: bad seed" + of, Books.book(4, cups).needs(0, -1), bad);
            Due.is("needs: empty" + of, Books.book(0, cups).needs(0, 0), none);
        }
        Due.is("degrees: bad seed, empty", Books.book(0, 0).degrees(65536, 1, 1), BAD_VALUE);
        Due.is("degrees: bad many, empty", Books.book(0, 0).degrees(0, 1000, 1), BAD_VALUE);
        Due.is("degrees: bad degree, empty", Books.book(0, 0).degrees(0, 1, 17), BAD_VALUE);
        Due.is("degrees: empty", Books.book(0, 0).degrees(0, 1, 16), NOT_POSSIBLE);
    }

    private static void noneIsNoError() {
        Due.is("known: not known, but such a cup and chapter", Books.book(4, 1).known(0, 3), NONE);
        Due.is("known: not known, no such chapter", Books.book(4, 1).known(0, 4), NO_SUCH);
        Due.is("known: not known, no such cup", Books.book(4, 1).known(1, 3), NO_SUCH);
        int hopeless = Draws.firstOfLost(500, 99);
        BookDroplets x = Books.book(4, 1);
        x.set(1, 99);
        Due.is("needs: 500 are too few", x.needs(0, hopeless), NONE);
        Due.is("needs: 500 are too few, no such cup", x.needs(1, hopeless), NO_SUCH);
        BookDroplets y = new BookDroplets();
        y.put('u');
        Due.is("fault: none", y.fault(), NONE);
    }
}
