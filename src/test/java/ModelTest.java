import java.util.ArrayList;
import java.util.List;

/** Runs of calls, drawn from fixed numbers, on the program and on the model: each answer has to be the same. */
public final class ModelTest {
    private static final int RUNS = 400;
    private static final int CALLS = 512;
    private static final int MOST_AT_ONCE = 50;
    private static final int[] EDGES = {-1, -2, Integer.MIN_VALUE, Integer.MAX_VALUE, 65535, 65536, 0, 1, 16, 17, 24, 99,
        100, 999, 1000, 6, 7, 8, 3, 2};
    private static final String SIGNS = "cups;.*0123456789x";

    private final BookDroplets program = new BookDroplets();
    private final Model model = new Model();
    private final List<String> calls = new ArrayList<>();
    private boolean same = true;
    private long drawn;
    private final int most;
    private final int chaptersFirst;

    private ModelTest(int run) {
        drawn = run * 7919L + 12345;
        for (int i = 0; i < 8; i++) {
            below(2);
        }
        // a full cup of all chapters makes few answers differ, so every run has its own size of book
        chaptersFirst = run % 17;
        most = run % 3 == 0 ? 99 : 1 + run % 12;
    }

    public static void main(String[] args) {
        for (int run = 0; run < RUNS; run++) {
            new ModelTest(run).run(run);
        }
        Due.end();
    }

    private void run(int run) {
        for (int i = 0; i < chaptersFirst; i++) {
            int number = below(65536);
            check("chapter(" + number + ")", program.chapter(number), model.chapter(number));
        }
        while (calls.size() < CALLS - MOST_AT_ONCE && same) {
            call();
            if (below(8) == 0) {
                lookAtAll();
            }
        }
        Due.is("run " + run + (same ? "" : " " + calls), same ? 1 : 0, 1);
    }

    private int below(int bound) {
        drawn = (drawn * 25214903917L + 11) & ((1L << 48) - 1);
        return (int) ((drawn >>> 20) % bound);
    }

    /** Mostly 0 to bound - 1, now and then an edge. */
    private int mostly(int bound) {
        return below(20) == 0 ? EDGES[below(EDGES.length)] : below(bound);
    }

    private void check(String call, long got, long due) {
        calls.add(call + " = " + got);
        if (got != due) {
            calls.add("due is " + due);
            same = false;
        }
    }

    private void lookAtAll() {
        for (int cup = 0; cup < 3; cup++) {
            int a = below(7);
            check("ofCup(" + cup + ", " + a + ")", program.ofCup(cup, a), model.ofCup(cup, a));
            int rank = below(3) == 0 ? model.ofCup(cup, 1) - 1 : below(24);
            int b = below(2);
            check("kept(" + cup + ", " + rank + ", " + b + ")", program.kept(cup, rank, b), model.kept(cup, rank, b));
            int c = below(16);
            check("known(" + cup + ", " + c + ")", program.known(cup, c), model.known(cup, c));
        }
        int what = below(8);
        check("count(" + what + ")", program.count(what), model.count(what));
    }

    private void call() {
        int a = mostly(3);
        int seed = below(4) == 0 ? 65500 + below(36) : mostly(65536);
        int what = mostly(8);
        switch (below(24)) {
            case 0 -> set();
            case 1 -> check("chapter(" + seed + ")", program.chapter(seed), model.chapter(seed));
            case 2 -> check("cup()", program.cup(), model.cup());
            case 3 -> {
                if (below(3) == 0) {
                    check("empty(" + a + ")", program.empty(a), model.empty(a));
                }
            }
            case 4, 5, 6, 7, 8 -> {
                int many = mostly(most) + 1;
                check("pour(" + a + ", " + seed + ", " + many + ")", program.pour(a, seed, many), model.pour(a, seed, many));
            }
            case 9 -> check("solve(" + a + ")", program.solve(a), model.solve(a));
            case 10 -> check("droplet(" + seed + ", " + what + ")", program.droplet(seed, what), model.droplet(seed, what));
            case 11 -> check("ofCup(" + a + ", " + what + ")", program.ofCup(a, what), model.ofCup(a, what));
            case 12 -> check("known(" + a + ", " + what + ")", program.known(a, what), model.known(a, what));
            case 13 -> {
                int rank = mostly(24);
                check("kept(" + a + ", " + rank + ", " + (what >> 2) + ")", program.kept(a, rank, what >> 2), model.kept(a, rank, what >> 2));
            }
            case 14 -> check("count(" + what + ")", program.count(what), model.count(what));
            case 15, 16 -> check("would(" + a + ", " + seed + ")", program.would(a, seed), model.would(a, seed));
            case 17 -> check("needs(" + a + ", " + seed + ")", program.needs(a, seed), model.needs(a, seed));
            case 18 -> {
                int many = mostly(1000);
                int degree = mostly(17);
                check("degrees(" + seed + ", " + many + ", " + degree + ")", program.degrees(seed, many, degree),
                    model.degrees(seed, many, degree));
            }
            case 19 -> put();
            case 20 -> text();
            case 21 -> check("undo()", program.undo(), model.undo());
            case 22 -> check("save(" + a + ")", program.save(a), model.save(a));
            default -> check("restore(" + a + ")", program.restore(a), model.restore(a));
        }
    }

    private void set() {
        int setting = mostly(2);
        int value = setting == 0 ? mostly(3) : below(2) == 0 ? below(30) : mostly(100);
        check("set(" + setting + ", " + value + ")", program.set(setting, value), model.set(setting, value));
    }

    private void put() {
        long characters = 0;
        int many = below(9);
        for (int i = 0; i < many; i++) {
            int code = below(40) == 0 ? below(256) : SIGNS.charAt(below(SIGNS.length()));
            characters = characters << 8 | code;
        }
        putBoth(characters);
        if (below(3) == 0) {
            check("wipe()", program.wipe(), model.wipe());
        }
    }

    private void putBoth(long characters) {
        check("put(" + characters + ")", program.put(characters), model.put(characters));
        check("fault()", program.fault(), model.fault());
    }

    /** A text that is right but for a sign now and then, put in pieces. */
    private void text() {
        check("wipe()", program.wipe(), model.wipe());
        StringBuilder text = new StringBuilder(order());
        for (int i = below(6); i > 0; i--) {
            text.append(';').append(order());
        }
        if (below(4) == 0) {
            text.setCharAt(below(text.length()), SIGNS.charAt(below(SIGNS.length())));
        }
        for (int i = 0; i < text.length(); i += 8) {
            putBoth(Due.packed(text.substring(i, Math.min(text.length(), i + 8))));
        }
        check("carryOut()", program.carryOut(), model.carryOut());
        check("fault()", program.fault(), model.fault());
    }

    private String order() {
        switch (below(8)) {
            case 0:
                return "c" + below(70000);
            case 1:
                return "u";
            case 2:
            case 3:
                return "s" + below(4);
            case 4:
                return "p" + below(4) + "." + below(66000);
            default:
                return "p" + below(3) + "." + below(65536) + "*" + below(below(4) == 0 ? 110 : 20);
        }
    }
}
