import java.util.ArrayList;
import java.util.List;
import java.util.function.Supplier;

/** What can be seen of an object, and of what it keeps for later: the states of its history, its slots, its pad. */
final class Look {
    private static final int SEEDS = 24;

    private Look() {
    }

    /** At most some 300 calls, so that an object is looked at once in its 512. */
    static List<Integer> at(BookDroplets x) {
        List<Integer> seen = new ArrayList<>();
        for (int what = 0; what <= 7; what++) {
            seen.add(x.count(what));
        }
        seen.add(x.fault());
        for (int seed = 0; seed < SEEDS; seed++) {
            seen.add(x.droplet(seed, 2));
        }
        for (int cup = 0; cup < x.count(1); cup++) {
            for (int what = 0; what <= 6; what++) {
                seen.add(x.ofCup(cup, what));
            }
            for (int chapter = 0; chapter < x.count(0); chapter++) {
                seen.add(x.known(cup, chapter));
            }
            for (int rank = 0; rank < x.ofCup(cup, 1); rank++) {
                seen.add(x.kept(cup, rank, 0));
                seen.add(x.kept(cup, rank, 1));
            }
        }
        return seen;
    }

    /** Each row is seen by an object of its own: now, after one to seven undo(), from each slot, by the pad's orders. */
    static List<List<Integer>> through(Supplier<BookDroplets> made) {
        List<List<Integer>> seen = new ArrayList<>();
        for (int undone = 0; undone <= 7; undone++) {
            BookDroplets x = made.get();
            List<Integer> answers = new ArrayList<>();
            for (int i = 0; i < undone; i++) {
                answers.add(x.undo());
            }
            answers.addAll(at(x));
            seen.add(answers);
        }
        for (int slot = 0; slot <= 1; slot++) {
            BookDroplets x = made.get();
            List<Integer> answers = new ArrayList<>(List.of(x.restore(slot)));
            answers.addAll(at(x));
            seen.add(answers);
        }
        for (long characters : new long[] {'u', '0', ';' << 8 | 'u'}) {
            BookDroplets x = made.get();
            List<Integer> answers = new ArrayList<>(List.of(x.put(characters), x.carryOut()));
            answers.addAll(at(x));
            seen.add(answers);
        }
        return seen;
    }
}
