import java.util.ArrayList;
import java.util.List;
import java.util.function.Consumer;

/** The boundary cases of undo, save and restore, and of what is a change. */
public final class HistoryEdgeTest {
    private static final int NOT_POSSIBLE = -5, TOO_MANY = -4, NONE = -6;
    private static final int LOSS = 1, CHANGES = 7;

    public static void main(String[] args) {
        sixStates();
        oldestIsDropped();
        ringGoesRound();
        eachChangeRecordsOnce();
        changesWithoutDifference();
        errorsRecordNothing();
        ordersRecordNothing();
        undoOfEachChange();
        padIsNotUndone();
        slotsAreNotUndone();
        undoOfRestore();
        nothingWasSaved();
        slotKeepsWhatWasSaved();
        slotIsOverwritten();
        twoSlots();
        restoreOfAnEmptyBook();
        eachOfThreeCupsComesBack();
        eachChapterComesBack();
        Due.end();
    }

    private static void is(String call, long got, long due) {
        Due.is(call, got, due);
    }

    /** LOSS tells the states apart: each change sets it to one more. */
    private static BookDroplets changed(int changes) {
        BookDroplets x = new BookDroplets();
        for (int i = 1; i <= changes; i++) {
            x.set(LOSS, i);
        }
        return x;
    }

    /** "A history of at most 6 states is kept"; "NOT_POSSIBLE if there is none". */
    private static void sixStates() {
        for (int changes = 0; changes <= 20; changes++) {
            BookDroplets x = changed(changes);
            int kept = Math.min(6, changes);
            is("can be undone behind " + changes, x.count(CHANGES), kept);
            for (int i = 1; i <= kept; i++) {
                is("undo " + i + " of " + changes, x.undo(), kept - i);
                is("can be undone then", x.count(CHANGES), kept - i);
                is("LOSS then", x.count(5), changes - i);
            }
            is("undo of one more than there are", x.undo(), NOT_POSSIBLE);
            is("undo of two more", x.undo(), NOT_POSSIBLE);
            is("LOSS is as it was", x.count(5), changes - kept);
        }
    }

    /** "when one more is recorded, the oldest one is dropped". */
    private static void oldestIsDropped() {
        BookDroplets x = changed(6);
        for (int i = 0; i < 6; i++) {
            x.undo();
        }
        is("the first of six states", x.count(5), 0);
        BookDroplets y = changed(7);
        for (int i = 0; i < 6; i++) {
            y.undo();
        }
        is("the second of seven states", y.count(5), 1);
        is("the first of seven states is dropped", y.undo(), NOT_POSSIBLE);
        BookDroplets z = changed(6);
        z.undo();
        z.set(LOSS, 50);
        is("six again", z.count(CHANGES), 6);
        for (int i = 0; i < 6; i++) {
            z.undo();
        }
        is("none was dropped", z.count(5), 0);
    }

    /** Any number of changes, of undo() and of changes again. */
    private static void ringGoesRound() {
        for (int changes = 0; changes <= 15; changes++) {
            for (int undone = 0; undone <= 6; undone++) {
                for (int more = 0; more <= 8; more++) {
                    goesRound(changes, undone, more);
                }
            }
        }
    }

    private static void goesRound(int changes, int undone, int more) {
        BookDroplets x = new BookDroplets();
        List<Integer> states = new ArrayList<>();
        for (int i = 1; i <= changes; i++) {
            states.add(x.set(LOSS, i));
        }
        while (states.size() > 6) {
            states.remove(0);
        }
        for (int i = 0; i < undone && !states.isEmpty(); i++) {
            x.undo();
            states.remove(states.size() - 1);
        }
        for (int i = 0; i < more; i++) {
            states.add(x.set(LOSS, 50 + i));
        }
        while (states.size() > 6) {
            states.remove(0);
        }
        String run = changes + " changes, " + undone + " undone, " + more + " more: ";
        is(run + "can be undone", x.count(CHANGES), states.size());
        for (int i = states.size() - 1; i >= 0; i--) {
            is(run + "undo", x.undo(), i);
            is(run + "LOSS", x.count(5), states.get(i));
        }
        is(run + "undo of too many", x.undo(), NOT_POSSIBLE);
    }

    private static void recordsOnce(String call, Consumer<BookDroplets> made) {
        BookDroplets x = Books.book(4, 1);
        x.save(0);
        for (int i = 0; i < 3; i++) {
            x.undo();
        }
        is("can be undone ahead of " + call, x.count(CHANGES), 2);
        made.accept(x);
        is("can be undone behind " + call, x.count(CHANGES), 3);
        x.undo();
        is("chapters ahead of " + call, x.count(0), 2);
    }

    private static void eachChangeRecordsOnce() {
        recordsOnce("set", x -> x.set(LOSS, 3));
        recordsOnce("chapter", x -> x.chapter(3));
        recordsOnce("cup", BookDroplets::cup);
        recordsOnce("restore", x -> x.restore(0));
        recordsOnce("carryOut of one", x -> {
            Due.type(x, "c5");
            x.carryOut();
        });
        BookDroplets x = Books.book(4, 1);
        for (int i = 0; i < 3; i++) {
            x.undo();
        }
        x.cup();
        x.pour(0, 0, 99);
        is("99 droplets are one change", x.count(CHANGES), 4);
        x.solve(0);
        is("solve is one", x.count(CHANGES), 5);
        x.empty(0);
        is("empty is one", x.count(CHANGES), 6);
        is("undo of empty", x.undo(), 5);
        is("undo of solve", x.undo(), 4);
        is("poured", x.count(3), 99);
        is("undo of pour", x.undo(), 3);
        is("poured then", x.count(3), 0);
    }

    /** "(also if nothing is different then)". */
    private static void changesWithoutDifference() {
        BookDroplets x = new BookDroplets();
        x.set(0, 1);
        is("set of the same WAY", x.count(CHANGES), 1);
        x.set(LOSS, 0);
        is("set of the same LOSS", x.count(CHANGES), 2);
        x.cup();
        x.empty(0);
        is("empty of an empty cup", x.count(CHANGES), 4);
        x.solve(0);
        is("solve of an empty cup", x.count(CHANGES), 5);
        x.save(0);
        x.undo();
        x.undo();
        x.undo();
        x.cup();
        x.restore(0);
        is("restore of the same", x.count(CHANGES), 4);
        x.put('s' << 8 | '9');
        x.carryOut();
        is("carryOut of none", x.count(CHANGES), 5);
        is("undo of carryOut", x.undo(), 4);
        is("undo of restore", x.undo(), 3);
        is("cup is there still", x.count(1), 1);
        is("undo of cup", x.undo(), 2);
        is("cup is not there", x.count(1), 0);
    }

    /** "each method that is a change, and returns no error, records"; also when the history is full. */
    private static void errorsRecordNothing() {
        for (int changes = 0; changes <= 8; changes++) {
            BookDroplets x = changed(changes);
            int kept = Math.min(6, changes);
            x.set(0, 3);
            x.chapter(65536);
            x.empty(0);
            x.pour(0, 0, 1);
            x.solve(0);
            x.carryOut();
            x.restore(0);
            x.restore(2);
            is("can be undone behind errors", x.count(CHANGES), kept);
            for (int i = 1; i <= kept; i++) {
                is("undo behind errors", x.undo(), kept - i);
                is("LOSS behind errors", x.count(5), changes - i);
            }
            is("undo of nothing behind errors", x.undo(), NOT_POSSIBLE);
        }
        BookDroplets y = changed(3);
        for (int i = 0; i < 3; i++) {
            y.cup();
        }
        is("a fourth cup", y.cup(), TOO_MANY);
        for (int i = 0; i < 6; i++) {
            y.undo();
        }
        is("LOSS behind a fourth cup", y.count(5), 0);
    }

    /** "An order of a text records nothing by itself." */
    private static void ordersRecordNothing() {
        BookDroplets x = new BookDroplets();
        Due.type(x, "c1;c2;c4;c8;u;p0.0;p0.1*20;s0;u");
        is("nine orders", x.carryOut(), 9);
        is("one change", x.count(CHANGES), 1);
        is("undo of all nine", x.undo(), 0);
        is("no chapters", x.count(0), 0);
        is("no cups", x.count(1), 0);
        is("nothing poured", x.count(3), 0);
    }

    /** "everything ... is as it was before it". */
    private static void undoOfEachChange() {
        undone("set", x -> x.set(LOSS, 77));
        undone("set of WAY", x -> x.set(0, 2));
        undone("cup", BookDroplets::cup);
        undone("empty", x -> x.empty(0));
        undone("pour", x -> x.pour(0, 0, 99));
        undone("pour of one", x -> x.pour(0, 12, 1));
        undone("pour of a lost one", x -> x.pour(0, 6, 1));
        undone("solve", x -> x.solve(0));
        undone("restore", x -> x.restore(0));
        undone("carryOut", x -> {
            Due.type(x, "p0.10*9;u;p1.0*9;s1;s0");
            x.carryOut();
        });
        BookDroplets y = new BookDroplets();
        for (int i = 0; i < 16; i++) {
            y.chapter(i + 100);
            if (i < 15) {
                y.undo();
                is("chapters without the one that is undone", y.count(0), i);
                y.chapter(i + 200);
            }
        }
        y.cup();
        y.set(0, 2);
        y.pour(0, 0, 99);
        is("known(0, 0)", y.known(0, 0), 200);
        is("known(0, 14)", y.known(0, 14), 214);
        is("known(0, 15)", y.known(0, 15), 115);
    }

    /** A cup that knows a chapter, keeps droplets, got a lost one, and could know more; a full history. */
    private static BookDroplets cupInUse() {
        BookDroplets x = new BookDroplets();
        for (int number : new int[] {100, 7, 65535, 4096, 9}) {
            x.chapter(number);
        }
        x.save(0);
        x.cup();
        x.pour(0, 14, 9);
        x.set(LOSS, 30);
        x.pour(0, 2, 1);
        return x;
    }

    private static void undone(String call, Consumer<BookDroplets> made) {
        BookDroplets x = cupInUse();
        List<Integer> before = Look.at(x);
        made.accept(x);
        List<Integer> between = Look.at(x);
        x.undo();
        List<Integer> after = Look.at(x);
        is("can be undone ahead of " + call, before.set(CHANGES, 0), 6);
        is("can be undone behind " + call, between.set(CHANGES, 0), 6);
        is("can be undone behind undo of " + call, after.set(CHANGES, 0), 5);
        is(call + " makes a difference", between.equals(before) ? 0 : 1, 1);
        is(call + " is undone", after.equals(before) ? 1 : 0, 1);
    }

    private static void padIsNotUndone() {
        BookDroplets x = new BookDroplets();
        x.set(LOSS, 1);
        Due.type(x, "c5;u");
        is("undo", x.undo(), 0);
        is("the pad's length", x.count(6), 4);
        is("the pad's fault", x.fault(), NONE);
        is("carryOut", x.carryOut(), 2);
        is("the pad's length then", x.count(6), 0);
        x.undo();
        is("the pad does not come back", x.count(6), 0);
        Due.type(x, "u");
        x.wipe();
        is("wipe is no change", x.count(CHANGES), 0);
    }

    private static void slotsAreNotUndone() {
        BookDroplets x = new BookDroplets();
        x.cup();
        x.cup();
        is("save", x.save(1), 2);
        is("save is no change", x.count(CHANGES), 2);
        x.undo();
        x.undo();
        is("no cups", x.count(1), 0);
        is("the slot is there behind undo", x.restore(1), 2);
        is("cups", x.count(1), 2);
        is("undo", x.undo(), 0);
        is("no cups again", x.count(1), 0);
        is("the slot is there still", x.restore(1), 2);
    }

    private static void undoOfRestore() {
        BookDroplets x = changed(9);
        x.save(0);
        x.set(LOSS, 10);
        x.restore(0);
        is("LOSS of the slot", x.count(5), 9);
        is("the history is not restored", x.count(CHANGES), 6);
        is("undo", x.undo(), 5);
        is("LOSS ahead of restore", x.count(5), 10);
        for (int i = 4; i >= 0; i--) {
            is("undo further", x.undo(), i);
            is("LOSS further", x.count(5), 5 + i);
        }
        is("undo of too many", x.undo(), NOT_POSSIBLE);
        is("restore behind it", x.restore(0), 0);
        is("LOSS of the slot again", x.count(5), 9);
    }

    /** "NOT_POSSIBLE if nothing was saved in it". */
    private static void nothingWasSaved() {
        for (int slot = 0; slot <= 1; slot++) {
            BookDroplets x = Books.book(4, 1);
            is("restore of nothing", x.restore(slot), NOT_POSSIBLE);
            x.save(1 - slot);
            is("restore of nothing, with the other slot saved", x.restore(slot), NOT_POSSIBLE);
            is("cups stay", x.count(1), 1);
            x.save(slot);
            x.cup();
            is("restore of the slot", x.restore(slot), 1);
        }
    }

    /** "a slot, which keeps it". */
    private static void slotKeepsWhatWasSaved() {
        BookDroplets x = cupInUse();
        x.save(1);
        List<Integer> saved = Look.at(x);
        for (int round = 0; round < 3; round++) {
            x.empty(0);
            x.pour(0, 100 * round, 50);
            x.solve(0);
            x.set(0, round);
            x.restore(1);
        }
        List<Integer> restored = Look.at(x);
        is("what was saved comes back three times", restored.equals(saved) ? 1 : 0, 1);
    }

    /** "and overwrites what was saved there". */
    private static void slotIsOverwritten() {
        BookDroplets x = new BookDroplets();
        for (int cups = 0; cups <= 3; cups++) {
            is("save of " + cups + " cups", x.save(0), cups);
            x.cup();
        }
        x.undo();
        is("restore of the last", x.restore(0), 3);
        x.undo();
        x.undo();
        is("save of less", x.save(0), 1);
        x.cup();
        is("restore of less", x.restore(0), 1);
    }

    private static void twoSlots() {
        BookDroplets x = Books.book(4, 1);
        x.save(0);
        x.pour(0, 0, 99);
        x.cup();
        x.save(1);
        is("restore of slot 0", x.restore(0), 1);
        is("poured there", x.count(3), 0);
        is("full there", x.count(2), 0);
        is("restore of slot 1", x.restore(1), 2);
        is("poured there, too", x.count(3), 99);
        is("full there, too", x.count(2), 1);
    }

    private static void restoreOfAnEmptyBook() {
        BookDroplets x = new BookDroplets();
        is("save of a new object", x.save(0), 0);
        for (int i = 0; i < 16; i++) {
            x.chapter(i);
        }
        x.cup();
        x.set(LOSS, 5);
        x.pour(0, 0, 99);
        is("restore of a new object", x.restore(0), 0);
        int[] due = {0, 0, 0, 0, 1, 0, 0, 6};
        for (int what = 0; what < due.length; what++) {
            is("count(" + what + ") then", x.count(what), due[what]);
        }
        is("droplet of an empty book", x.droplet(0, 0), NOT_POSSIBLE);
        is("the first chapter", x.chapter(9), 0);
        is("the first cup", x.cup(), 0);
        for (int what = 0; what <= 6; what++) {
            is("ofCup(0, " + what + ") of a new cup", x.ofCup(0, what), 0);
        }
    }

    private static void eachOfThreeCupsComesBack() {
        for (int cup = 0; cup < 3; cup++) {
            BookDroplets x = Books.book(4, 3);
            x.save(0);
            x.pour(cup, 0, 99);
            is("full", x.count(2), 1 << cup);
            x.save(1);
            x.undo();
            is("not full behind undo", x.count(2), 0);
            is("poured behind undo", x.ofCup(cup, 2), 0);
            x.restore(1);
            is("full behind restore", x.count(2), 1 << cup);
            is("useless behind restore", x.ofCup(cup, 4) > 0 ? 1 : 0, 1);
            x.restore(0);
            is("not full behind restore", x.count(2), 0);
            x.undo();
            is("full behind undo of restore", x.count(2), 1 << cup);
        }
    }

    /** At each of the sixteen places there is another number in the slot than in the book. */
    private static void eachChapterComesBack() {
        BookDroplets x = new BookDroplets();
        x.save(1);
        for (int i = 0; i < 16; i++) {
            x.chapter(1 << i);
        }
        x.save(0);
        x.restore(1);
        for (int i = 0; i < 16; i++) {
            x.chapter(65535 - (1 << i));
        }
        numbersAre(x, 65535, -1);
        x.restore(0);
        numbersAre(x, 0, 1);
        x.undo();
        numbersAre(x, 65535, -1);
    }

    /** By WAY 2 there are droplets of one chapter each. */
    private static void numbersAre(BookDroplets x, int sum, int sign) {
        x.set(0, 2);
        for (int i = 0; i < 16; i++) {
            int chapter = i;
            int seed = Draws.firstSeed("chapter " + i + " alone",
                s -> Draws.draw(s, 2) % 4 == 0 && Draws.draw(s, 3) % 16 == chapter);
            is("set of chapter " + i + " alone", x.droplet(seed, 1), 1 << i);
            is("number of chapter " + i, x.droplet(seed, 2), sum + sign * (1 << i));
        }
        x.undo();
    }
}
