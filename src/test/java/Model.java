import java.util.ArrayDeque;
import java.util.ArrayList;
import java.util.Deque;
import java.util.HashMap;
import java.util.LinkedHashMap;
import java.util.List;
import java.util.Map;
import java.util.TreeSet;
import java.util.regex.Matcher;
import java.util.regex.Pattern;

/**
 * The document once more, written by other means than the program: sets that are sets, solving by all sums,
 * texts by a pattern, states that are copied whole. It may be slow, and it uses the Java library as it likes.
 */
final class Model {
    private static final int NO_SUCH = -1, BAD_VALUE = -2, BAD_TEXT = -3, TOO_MANY = -4, NOT_POSSIBLE = -5, NONE = -6;
    private static final String NUMBER =
        "(0|[1-9][0-9]{0,3}|[1-5][0-9]{4}|6[0-4][0-9]{3}|65[0-4][0-9]{2}|655[0-2][0-9]|6553[0-5])";
    private static final String ORDER = "(c" + NUMBER + "|u|p[0-9]\\." + NUMBER + "(\\*" + NUMBER + ")?|s[0-9])";
    private static final Pattern TEXT = Pattern.compile(ORDER + "(;" + ORDER + ")*");

    private static final class Drop {
        final TreeSet<Integer> set = new TreeSet<>();
        int number;
        int degree;
        boolean lost;
    }

    private static final class Vessel {
        final Map<Integer, Integer> known = new LinkedHashMap<>();
        final List<Drop> kept = new ArrayList<>();
        int poured;
        int lost;
        int useless;

        Vessel copy() {
            Vessel copy = new Vessel();
            copy.known.putAll(known);
            for (Drop drop : kept) {
                Drop same = new Drop();
                same.set.addAll(drop.set);
                same.number = drop.number;
                copy.kept.add(same);
            }
            copy.poured = poured;
            copy.lost = lost;
            copy.useless = useless;
            return copy;
        }

        void learn(int chapter, int number) {
            know(chapter, number);
            clean();
        }

        void know(int chapter, int number) {
            known.put(chapter, number);
            for (Drop drop : kept) {
                if (drop.set.remove(chapter)) {
                    drop.number ^= number;
                }
            }
        }

        void clean() {
            for (int i = 0; i < kept.size(); i++) {
                if (kept.get(i).set.size() < 2) {
                    Drop drop = kept.remove(i);
                    if (!drop.set.isEmpty() && !known.containsKey(drop.set.first())) {
                        learn(drop.set.first(), drop.number);
                    }
                    i = -1;
                }
            }
        }

        void pour(Drop drop) {
            poured++;
            if (drop.lost) {
                lost++;
                return;
            }
            for (int chapter : known.keySet()) {
                if (drop.set.remove(chapter)) {
                    drop.number ^= known.get(chapter);
                }
            }
            if (drop.set.isEmpty()) {
                useless++;
            } else if (drop.set.size() == 1) {
                learn(drop.set.first(), drop.number);
            } else if (kept.size() < 24) {
                kept.add(drop);
            } else {
                useless++;
            }
        }

        /** Chapters that some sum of kept droplets is, with their numbers. */
        Map<Integer, Integer> solution() {
            Map<Integer, Integer> sums = new HashMap<>();
            sums.put(0, 0);
            for (Drop drop : kept) {
                Map<Integer, Integer> more = new HashMap<>();
                for (Map.Entry<Integer, Integer> sum : sums.entrySet()) {
                    more.put(sum.getKey() ^ mask(drop.set), sum.getValue() ^ drop.number);
                }
                sums.putAll(more);
            }
            Map<Integer, Integer> solution = new HashMap<>();
            for (int chapter = 0; chapter < 16; chapter++) {
                if (sums.containsKey(1 << chapter)) {
                    solution.put(chapter, sums.get(1 << chapter));
                }
            }
            return solution;
        }
    }

    private static final class World {
        int way = 1;
        int loss = 0;
        int poured = 0;
        List<Integer> book = new ArrayList<>();
        List<Vessel> cups = new ArrayList<>();

        World copy() {
            World copy = new World();
            copy.way = way;
            copy.loss = loss;
            copy.poured = poured;
            copy.book.addAll(book);
            for (Vessel cup : cups) {
                copy.cups.add(cup.copy());
            }
            return copy;
        }
    }

    private World world = new World();
    private final Deque<World> history = new ArrayDeque<>();
    private final World[] slots = new World[2];
    private String pad = "";

    private static int mask(Iterable<Integer> set) {
        int mask = 0;
        for (int chapter : set) {
            mask += 1 << chapter;
        }
        return mask;
    }

    private void record(World before) {
        history.addLast(before);
        if (history.size() > 6) {
            history.removeFirst();
        }
    }

    private int change(World before, int answer) {
        if (answer >= 0) {
            record(before);
        }
        return answer;
    }

    private boolean hasCup(int cup) {
        return cup >= 0 && cup < world.cups.size();
    }

    private static boolean in(int value, int least, int most) {
        return least <= value && value <= most;
    }

    private Drop drop(int seed) {
        int n = world.book.size();
        long x = (75L * (seed % 65536) + 74) % 65537;
        Drop drop = new Drop();
        drop.lost = x % 100 < world.loss;
        x = (75 * x + 74) % 65537;
        if (world.way == 0) {
            drop.degree = (int) (1 + x % n);
        } else if (world.way == 1) {
            int[] degrees = {1, 1, 1, 1, 2, 2, 2, 2, 2, 2, 2, 2, 2, 2, 2, 2, 3, 3, 3, 3, 4, 4, 4, 4};
            drop.degree = Math.min(n, degrees[(int) (x % 24)]);
        } else {
            drop.degree = x % 4 == 0 ? 1 : n;
        }
        while (drop.set.size() < drop.degree) {
            x = (75 * x + 74) % 65537;
            int chapter = (int) (x % n);
            while (!drop.set.add(chapter)) {
                chapter = (chapter + 1) % n;
            }
        }
        for (int chapter : drop.set) {
            drop.number ^= world.book.get(chapter);
        }
        return drop;
    }

    int set(int setting, int value) {
        return change(world.copy(), doSet(setting, value));
    }

    private int doSet(int setting, int value) {
        if (!in(setting, 0, 1) || !in(value, 0, setting == 0 ? 2 : 99)) {
            return BAD_VALUE;
        }
        int before = setting == 0 ? world.way : world.loss;
        if (setting == 0) {
            world.way = value;
        } else {
            world.loss = value;
        }
        return before;
    }

    int chapter(int number) {
        return change(world.copy(), doChapter(number));
    }

    private int doChapter(int number) {
        if (!in(number, 0, 65535)) {
            return BAD_VALUE;
        }
        if (!world.cups.isEmpty()) {
            return NOT_POSSIBLE;
        }
        if (world.book.size() == 16) {
            return TOO_MANY;
        }
        world.book.add(number);
        return world.book.size() - 1;
    }

    int cup() {
        return change(world.copy(), doCup());
    }

    private int doCup() {
        if (world.cups.size() == 3) {
            return TOO_MANY;
        }
        world.cups.add(new Vessel());
        return world.cups.size() - 1;
    }

    int empty(int cup) {
        if (!hasCup(cup)) {
            return NO_SUCH;
        }
        record(world.copy());
        return world.cups.set(cup, new Vessel()).known.size();
    }

    int pour(int cup, int seed, int many) {
        return change(world.copy(), doPour(cup, seed, many));
    }

    private int doPour(int cup, int seed, int many) {
        if (!hasCup(cup)) {
            return NO_SUCH;
        }
        if (!in(seed, 0, 65535) || !in(many, 1, 99)) {
            return BAD_VALUE;
        }
        if (world.book.isEmpty()) {
            return NOT_POSSIBLE;
        }
        Vessel vessel = world.cups.get(cup);
        int before = vessel.known.size();
        for (int i = 0; i < many; i++) {
            vessel.pour(drop(seed + i));
            world.poured++;
        }
        return vessel.known.size() - before;
    }

    int solve(int cup) {
        return change(world.copy(), doSolve(cup));
    }

    private int doSolve(int cup) {
        if (!hasCup(cup)) {
            return NO_SUCH;
        }
        Vessel vessel = world.cups.get(cup);
        Map<Integer, Integer> solution = vessel.solution();
        int before = vessel.known.size();
        solution.forEach(vessel::know);
        vessel.clean();
        return vessel.known.size() - before;
    }

    int droplet(int seed, int what) {
        if (!in(seed, 0, 65535) || !in(what, 0, 3)) {
            return BAD_VALUE;
        }
        if (world.book.isEmpty()) {
            return NOT_POSSIBLE;
        }
        Drop drop = drop(seed);
        return new int[] {drop.degree, mask(drop.set), drop.number, drop.lost ? 1 : 0}[what];
    }

    private boolean full(Vessel vessel) {
        return vessel.known.size() == world.book.size();
    }

    int ofCup(int cup, int what) {
        if (!hasCup(cup)) {
            return NO_SUCH;
        }
        if (!in(what, 0, 6)) {
            return BAD_VALUE;
        }
        Vessel vessel = world.cups.get(cup);
        int solvable = what == 6 ? vessel.known.size() + vessel.solution().size() : 0;
        return new int[] {mask(vessel.known.keySet()), vessel.kept.size(), vessel.poured, vessel.lost, vessel.useless,
            full(vessel) ? 1 : 0, solvable}[what];
    }

    int known(int cup, int chapter) {
        if (!hasCup(cup) || !in(chapter, 0, world.book.size() - 1)) {
            return NO_SUCH;
        }
        return world.cups.get(cup).known.getOrDefault(chapter, NONE);
    }

    int kept(int cup, int rank, int what) {
        if (!hasCup(cup) || !in(rank, 0, world.cups.get(cup).kept.size() - 1)) {
            return NO_SUCH;
        }
        if (!in(what, 0, 1)) {
            return BAD_VALUE;
        }
        Drop drop = world.cups.get(cup).kept.get(rank);
        return what == 0 ? mask(drop.set) : drop.number;
    }

    int count(int what) {
        if (!in(what, 0, 7)) {
            return BAD_VALUE;
        }
        int full = 0;
        for (int i = 0; i < world.cups.size(); i++) {
            full += full(world.cups.get(i)) ? 1 << i : 0;
        }
        return new int[] {world.book.size(), world.cups.size(), full, world.poured, world.way, world.loss,
            pad.length(), history.size()}[what];
    }

    private int errorOfAsking(int cup, int seed) {
        if (!hasCup(cup)) {
            return NO_SUCH;
        }
        if (!in(seed, 0, 65535)) {
            return BAD_VALUE;
        }
        return world.book.isEmpty() ? NOT_POSSIBLE : 0;
    }

    int would(int cup, int seed) {
        if (errorOfAsking(cup, seed) != 0) {
            return errorOfAsking(cup, seed);
        }
        Vessel before = world.cups.get(cup);
        Vessel after = before.copy();
        after.pour(drop(seed));
        if (after.lost > before.lost) {
            return 0;
        }
        if (after.useless > before.useless) {
            return 1;
        }
        return 2 + after.known.size() - before.known.size();
    }

    int needs(int cup, int seed) {
        if (errorOfAsking(cup, seed) != 0) {
            return errorOfAsking(cup, seed);
        }
        Vessel vessel = world.cups.get(cup).copy();
        int used = 0;
        while (!full(vessel) && used < 500) {
            vessel.pour(drop(seed + used));
            used++;
        }
        return full(vessel) ? used : NONE;
    }

    int degrees(int seed, int many, int degree) {
        if (!in(seed, 0, 65535) || !in(many, 1, 999) || !in(degree, 1, 16)) {
            return BAD_VALUE;
        }
        if (world.book.isEmpty()) {
            return NOT_POSSIBLE;
        }
        int found = 0;
        for (int i = 0; i < many; i++) {
            found += drop(seed + i).degree == degree ? 1 : 0;
        }
        return found;
    }

    int put(long characters) {
        StringBuilder text = new StringBuilder();
        long rest = characters;
        while (rest != 0) {
            int code = (int) (rest & 255);
            if (!in(code, 33, 126)) {
                return BAD_VALUE;
            }
            text.insert(0, (char) code);
            rest >>>= 8;
        }
        if (text.length() == 0) {
            return BAD_VALUE;
        }
        if (pad.length() + text.length() > 80) {
            return TOO_MANY;
        }
        pad += text;
        return pad.length();
    }

    int wipe() {
        int before = pad.length();
        pad = "";
        return before;
    }

    /** The first character with which what stands up to it is the start of no text. */
    int fault() {
        if (TEXT.matcher(pad).matches()) {
            return NONE;
        }
        for (int end = 1; end <= pad.length(); end++) {
            Matcher matcher = TEXT.matcher(pad.substring(0, end));
            if (!matcher.matches() && !matcher.hitEnd()) {
                return end - 1;
            }
        }
        return pad.length();
    }

    int carryOut() {
        if (fault() != NONE) {
            return BAD_TEXT;
        }
        record(world.copy());
        int carried = 0;
        for (String order : pad.split(";")) {
            if (carry(order) < 0) {
                break;
            }
            carried++;
        }
        pad = "";
        return carried;
    }

    private int carry(String order) {
        String[] words = order.substring(1).split("[.*]");
        if (order.charAt(0) == 'u') {
            return doCup();
        }
        int first = Integer.parseInt(words[0]);
        if (order.charAt(0) == 'c') {
            return doChapter(first);
        }
        if (order.charAt(0) == 's') {
            return doSolve(first);
        }
        return doPour(first, Integer.parseInt(words[1]), words.length < 3 ? 1 : Integer.parseInt(words[2]));
    }

    int undo() {
        if (history.isEmpty()) {
            return NOT_POSSIBLE;
        }
        world = history.removeLast();
        return history.size();
    }

    int save(int slot) {
        if (!in(slot, 0, 1)) {
            return BAD_VALUE;
        }
        slots[slot] = world.copy();
        return world.cups.size();
    }

    int restore(int slot) {
        if (!in(slot, 0, 1)) {
            return BAD_VALUE;
        }
        if (slots[slot] == null) {
            return NOT_POSSIBLE;
        }
        record(world);
        world = slots[slot].copy();
        return world.cups.size();
    }
}
