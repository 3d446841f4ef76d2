import java.util.ArrayList;
import java.util.List;
import java.util.function.Supplier;
import java.util.function.ToIntFunction;

/**
 * A call that returns an error changes nothing, nor does a question: what can be seen behind the call is what can be
 * seen without it, at once, after undo(), from the slots and by the pad's text.
 */
public final class UnchangedTest {
    private static final int NO_SUCH = -1, BAD_VALUE = -2, BAD_TEXT = -3, TOO_MANY = -4, NOT_POSSIBLE = -5;

    private final String name;
    private final Supplier<BookDroplets> made;
    private final List<List<Integer>> due;

    private UnchangedTest(String name, Supplier<BookDroplets> made) {
        this.name = name;
        this.made = made;
        due = Look.through(made);
    }

    public static void main(String[] args) {
        new UnchangedTest("a new object", BookDroplets::new).refusesOfANewObject();
        new UnchangedTest("an empty book with a cup", UnchangedTest::emptyBookWithCup).refusesOfAnEmptyBook();
        new UnchangedTest("sixteen chapters", UnchangedTest::sixteenChapters).refusesOfSixteenChapters();
        new UnchangedTest("three cups", UnchangedTest::threeCups).refusesOfThreeCups();
        new UnchangedTest("three cups, asked", UnchangedTest::threeCups).questions();
        theSixStatesDiffer();
        failingOrdersChangeNothing();
        Due.end();
    }

    private static BookDroplets emptyBookWithCup() {
        BookDroplets x = new BookDroplets();
        x.set(1, 5);
        x.cup();
        x.put('s');
        return x;
    }

    /** A full history, each of its states with a chapter less; no cup; the pad ends too early. */
    private static BookDroplets sixteenChapters() {
        BookDroplets x = new BookDroplets();
        for (int i = 0; i < 16; i++) {
            x.chapter(60000 + i);
        }
        Due.type(x, "u;u;");
        return x;
    }

    /** All there is at once: a full history, a cup that keeps 24, a slot that is saved and one that is not, a pad of 79. */
    private static BookDroplets threeCups() {
        BookDroplets x = Books.book(16, 1);
        x.pour(0, 0, 40);
        x.cup();
        x.save(0);
        x.set(0, 0);
        x.cup();
        x.pour(1, manyInARowThatAreKept(), 24);
        x.set(1, 30);
        x.pour(2, 5, 12);
        x.solve(0);
        Due.type(x, "p0.1;p1.2*3;p2.3*4;s0;s1;s2;p0.10;p0.11;p0.12;p0.13;p0.14;p0.15;p0.16;p0.17;p0.");
        return x;
    }

    private static int manyInARowThatAreKept() {
        return Draws.firstSeed("24 that are kept", seed -> {
            for (int i = 0; i < 24; i++) {
                if (Draws.draw(seed + i, 2) % 16 == 0) {
                    return false;
                }
            }
            return true;
        });
    }

    private void refused(String call, int error, ToIntFunction<BookDroplets> called) {
        Due.is(name + ": " + call, called.applyAsInt(made.get()), error);
        unchanged(call, called);
    }

    private void unchanged(String call, ToIntFunction<BookDroplets> called) {
        List<List<Integer>> seen = Look.through(() -> {
            BookDroplets x = made.get();
            called.applyAsInt(x);
            return x;
        });
        for (int i = 0; i < due.size(); i++) {
            Due.is(name + ": " + call + " changes nothing, row " + i, seen.get(i).equals(due.get(i)) ? 1 : 0, 1);
        }
    }

    /** What is refused in every state. */
    private void refusesOfAny() {
        refused("set(-1, 0)", BAD_VALUE, x -> x.set(-1, 0));
        refused("set(2, 0)", BAD_VALUE, x -> x.set(2, 0));
        refused("set(0, -1)", BAD_VALUE, x -> x.set(0, -1));
        refused("set(0, 3)", BAD_VALUE, x -> x.set(0, 3));
        refused("set(1, -1)", BAD_VALUE, x -> x.set(1, -1));
        refused("set(1, 100)", BAD_VALUE, x -> x.set(1, 100));
        refused("chapter(-1)", BAD_VALUE, x -> x.chapter(-1));
        refused("chapter(65536)", BAD_VALUE, x -> x.chapter(65536));
        refused("put(0)", BAD_VALUE, x -> x.put(0));
        refused("put(32)", BAD_VALUE, x -> x.put(32));
        refused("put(127)", BAD_VALUE, x -> x.put(127));
        refused("put(\" u\")", BAD_VALUE, x -> x.put(' ' << 8 | 'u'));
        refused("put(\"u\") with a gap", BAD_VALUE, x -> x.put('u' << 16 | 'u'));
        refused("save(-1)", BAD_VALUE, x -> x.save(-1));
        refused("save(2)", BAD_VALUE, x -> x.save(2));
        refused("restore(-1)", BAD_VALUE, x -> x.restore(-1));
        refused("restore(2)", BAD_VALUE, x -> x.restore(2));
        refused("restore(1)", NOT_POSSIBLE, x -> x.restore(1));
        refused("carryOut()", BAD_TEXT, BookDroplets::carryOut);
        for (int cup : new int[] {-1, 3}) {
            refusesOfNoCup(cup);
        }
    }

    private void refusesOfNoCup(int cup) {
        refused("empty(" + cup + ")", NO_SUCH, x -> x.empty(cup));
        refused("pour(" + cup + ", 0, 1)", NO_SUCH, x -> x.pour(cup, 0, 1));
        refused("solve(" + cup + ")", NO_SUCH, x -> x.solve(cup));
        refused("ofCup(" + cup + ", 0)", NO_SUCH, x -> x.ofCup(cup, 0));
        refused("known(" + cup + ", 0)", NO_SUCH, x -> x.known(cup, 0));
        refused("kept(" + cup + ", 0, 0)", NO_SUCH, x -> x.kept(cup, 0, 0));
        refused("would(" + cup + ", 0)", NO_SUCH, x -> x.would(cup, 0));
        refused("needs(" + cup + ", 0)", NO_SUCH, x -> x.needs(cup, 0));
    }

    private void refusesOfANewObject() {
        refusesOfAny();
        refusesOfNoCup(0);
        refused("undo()", NOT_POSSIBLE, BookDroplets::undo);
        refused("droplet(0, 0)", NOT_POSSIBLE, x -> x.droplet(0, 0));
        refused("degrees(0, 1, 1)", NOT_POSSIBLE, x -> x.degrees(0, 1, 1));
        refused("restore(0)", NOT_POSSIBLE, x -> x.restore(0));
    }

    private void refusesOfAnEmptyBook() {
        refusesOfAny();
        refusesOfNoCup(1);
        refused("chapter(5)", NOT_POSSIBLE, x -> x.chapter(5));
        refused("pour(0, 0, 1)", NOT_POSSIBLE, x -> x.pour(0, 0, 1));
        refused("pour(0, 0, 99)", NOT_POSSIBLE, x -> x.pour(0, 0, 99));
        refused("droplet(0, 0)", NOT_POSSIBLE, x -> x.droplet(0, 0));
        refused("would(0, 0)", NOT_POSSIBLE, x -> x.would(0, 0));
        refused("needs(0, 0)", NOT_POSSIBLE, x -> x.needs(0, 0));
        refused("degrees(0, 1, 1)", NOT_POSSIBLE, x -> x.degrees(0, 1, 1));
        refused("known(0, 0)", NO_SUCH, x -> x.known(0, 0));
        refused("kept(0, 0, 0)", NO_SUCH, x -> x.kept(0, 0, 0));
    }

    private void refusesOfSixteenChapters() {
        refusesOfAny();
        refusesOfNoCup(0);
        refused("chapter(5)", TOO_MANY, x -> x.chapter(5));
        refused("chapter(65535)", TOO_MANY, x -> x.chapter(65535));
        refused("droplet(-1, 0)", BAD_VALUE, x -> x.droplet(-1, 0));
        refused("degrees(0, 0, 1)", BAD_VALUE, x -> x.degrees(0, 0, 1));
    }

    private void refusesOfThreeCups() {
        refusesOfAny();
        refused("cup()", TOO_MANY, BookDroplets::cup);
        refused("chapter(5)", NOT_POSSIBLE, x -> x.chapter(5));
        refused("pour(1, -1, 1)", BAD_VALUE, x -> x.pour(1, -1, 1));
        refused("pour(1, 65536, 1)", BAD_VALUE, x -> x.pour(1, 65536, 1));
        refused("pour(1, 0, 0)", BAD_VALUE, x -> x.pour(1, 0, 0));
        refused("pour(1, 0, 100)", BAD_VALUE, x -> x.pour(1, 0, 100));
        refused("put of two on a pad of 79", TOO_MANY, x -> x.put('1' << 8 | '1'));
        refused("put of eight on a pad of 79", TOO_MANY, x -> x.put(Due.packed("11111111")));
        refused("ofCup(0, 7)", BAD_VALUE, x -> x.ofCup(0, 7));
        refused("known(0, 16)", NO_SUCH, x -> x.known(0, 16));
        refused("kept(1, 24, 0)", NO_SUCH, x -> x.kept(1, 24, 0));
        refused("kept(1, 0, 2)", BAD_VALUE, x -> x.kept(1, 0, 2));
        refused("count(8)", BAD_VALUE, x -> x.count(8));
        refused("would(0, 65536)", BAD_VALUE, x -> x.would(0, 65536));
        refused("needs(0, 65536)", BAD_VALUE, x -> x.needs(0, 65536));
        refused("degrees(0, 1000, 1)", BAD_VALUE, x -> x.degrees(0, 1000, 1));
        refused("droplet(0, 4)", BAD_VALUE, x -> x.droplet(0, 4));
        Due.is("three cups: cup 1 keeps", threeCups().ofCup(1, 1), 24);
        Due.is("three cups: the pad's length", threeCups().count(6), 79);
    }

    private void questions() {
        for (int seed = 0; seed < 40; seed++) {
            int asked = seed;
            unchanged("would of " + seed, x -> x.would(0, asked) + x.would(1, asked) + x.would(2, asked));
        }
        unchanged("needs", x -> x.needs(0, 7) + x.needs(1, 7) + x.needs(2, 7));
        unchanged("degrees", x -> x.degrees(7, 999, 3));
        unchanged("what could be known", x -> x.ofCup(0, 6) + x.ofCup(1, 6) + x.ofCup(2, 6));
        unchanged("droplet", x -> x.droplet(9, 0) + x.droplet(9, 3));
        unchanged("fault", BookDroplets::fault);
    }

    /** Else a state that was overwritten by a neighbour of it would not be seen. */
    private static void theSixStatesDiffer() {
        for (List<List<Integer>> rows : List.of(Look.through(UnchangedTest::sixteenChapters), Look.through(UnchangedTest::threeCups))) {
            List<List<Integer>> differing = new ArrayList<>();
            for (int i = 0; i <= 6; i++) {
                List<Integer> seen = rows.get(i).subList(i, rows.get(i).size());
                Due.is("state " + i + " differs from those before it", differing.contains(seen) ? 1 : 0, 0);
                differing.add(seen);
            }
            Due.is("the seventh undo()", rows.get(7).get(6), NOT_POSSIBLE);
        }
    }

    /** An order that returns an error: what is seen is as if the text had ended ahead of it, and nothing behind it is done. */
    private static void failingOrdersChangeNothing() {
        for (String failing : new String[] {"c5", "u", "p3.0", "p9.0", "p0.0*0", "p0.0*100", "p0.65535*65535", "s3", "s9"}) {
            List<List<Integer>> due = Look.through(() -> carried("p0.5;s1"));
            List<List<Integer>> seen = Look.through(() -> carried("p0.5;s1;" + failing + ";p0.6;p1.7;s0"));
            Due.is("carried out up to " + failing, seen.equals(due) ? 1 : 0, 1);
        }
    }

    private static BookDroplets carried(String text) {
        BookDroplets x = threeCups();
        x.wipe();
        Due.type(x, text);
        Due.is("orders ahead of the failing one", x.carryOut(), 2);
        return x;
    }
}
