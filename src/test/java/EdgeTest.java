import java.util.ArrayList;
import java.util.List;
import java.util.function.IntPredicate;

/**
 * The boundary cases of the document's terms and promises, each by its sentence: the book, its droplets and seeds,
 * what is lost, cups and what they keep, solving, and what would be. The seeds are found by Draws.
 */
public final class EdgeTest {
    private static final int NO_SUCH = -1, TOO_MANY = -4, NOT_POSSIBLE = -5, NONE = -6;
    private static final int WAY = 0, LOSS = 1;

    public static void main(String[] args) {
        firstValues();
        upToSixteenChapters();
        numbersOfChapters();
        seedBehindTheLast();
        manyBehindTheLastSeed();
        lostIfBelowLoss();
        lostCountOnlyAsPouredAndLost();
        degreesOfWay0();
        degreesOfWay1();
        degreesOfWay2();
        nextChapterThatItHasNot();
        upToThreeCups();
        emptyBook();
        whatIsLeftOfASet();
        twentyFourKept();
        peelingOfTwentyFour();
        takenAwayOfTwentyFour();
        peelingOfSixteen();
        theFirstSuchOneIsTakenAway();
        fullIfAllAreKnown();
        emptyForgetsAll();
        solvingOfNothing();
        solvingByFifteen();
        solvingByTheFirstAndTheLast();
        needsOfTooMany();
        degreesOfAll();
        fiveHundredAndTwelveCalls();
        Due.end();
    }

    private static void is(String call, long got, long due) {
        Due.is(call, got, due);
    }

    /** A seed whose droplet has just these chapters, by WAY 0, in a book of sixteen. */
    private static int seedOf(int set) {
        Model model = new Model();
        for (int i = 0; i < 16; i++) {
            model.chapter(1 << i);
        }
        model.set(WAY, 0);
        int degree = Integer.bitCount(set);
        return Draws.firstSeed("the set " + set,
            seed -> 1 + Draws.draw(seed, 2) % 16 == degree && model.droplet(seed, 1) == set);
    }

    private static BookDroplets sixteenByWay0() {
        BookDroplets x = Books.book(16, 1);
        x.set(WAY, 0);
        return x;
    }

    private static int pourSet(BookDroplets x, int set) {
        return x.pour(0, seedOf(set), 1);
    }

    // "(In parentheses: range; first value.) WAY (0 to 2; 1) ...; LOSS (0 to 99; 0)"
    private static void firstValues() {
        is("first value of WAY", new BookDroplets().count(4), 1);
        is("first value of LOSS", new BookDroplets().count(5), 0);
        is("set(WAY, 0) of a new object", new BookDroplets().set(WAY, 0), 1);
        is("set(LOSS, 99) of a new object", new BookDroplets().set(LOSS, 99), 0);
        BookDroplets x = new BookDroplets();
        for (int value : new int[] {0, 1, 2}) {
            x.set(WAY, value);
            is("WAY", x.count(4), value);
        }
        for (int value : new int[] {0, 1, 98, 99}) {
            x.set(LOSS, value);
            is("LOSS", x.count(5), value);
        }
        is("WAY is as it was", x.count(4), 2);
    }

    // "The book has up to 16 chapters"; "NOT_POSSIBLE if there is a cup; TOO_MANY if there are 16 chapters"
    private static void upToSixteenChapters() {
        BookDroplets x = Books.book(15, 0);
        is("chapters", x.count(0), 15);
        is("the sixteenth chapter", x.chapter(5), 15);
        is("the seventeenth chapter", x.chapter(5), TOO_MANY);
        is("chapters, then", x.count(0), 16);
        x.undo();
        is("the sixteenth chapter again", x.chapter(6), 15);
        is("the seventeenth chapter again", x.chapter(6), TOO_MANY);
        x.cup();
        is("a chapter with a cup", x.chapter(6), NOT_POSSIBLE);
        BookDroplets y = new BookDroplets();
        y.cup();
        is("the first chapter with a cup", y.chapter(0), NOT_POSSIBLE);
        y.undo();
        is("the first chapter without it", y.chapter(0), 0);
    }

    // "numbered from 0 in the order in which they came, each a number (0 to 65535)"
    private static void numbersOfChapters() {
        BookDroplets x = new BookDroplets();
        int[] numbers = {65535, 0, 1, 65534, 32768, 32767, 7, 7, 255, 256, 4096, 0, 3, 9, 65535, 54321};
        for (int i = 0; i < numbers.length; i++) {
            is("place of a chapter", x.chapter(numbers[i]), i);
        }
        x.cup();
        x.save(0);
        for (int round = 0; round < 3; round++) {
            x.set(WAY, 2);
            for (int seed = 0; seed < 200; seed += 50) {
                x.pour(0, seed, 50);
            }
            for (int i = 0; i < numbers.length; i++) {
                is("known(0, " + i + "), round " + round, x.known(0, i), numbers[i]);
            }
            x.restore(0);
            is("nothing is known, round " + round, x.ofCup(0, 0), 0);
        }
    }

    // "each greater by 1 (behind 65535 comes 0)"
    private static void seedBehindTheLast() {
        BookDroplets x = sixteenByWay0();
        x.cup();
        x.pour(0, 65535, 3);
        for (int seed : new int[] {65535, 0, 1}) {
            x.pour(1, seed, 1);
        }
        for (int rank = 0; rank < 3; rank++) {
            is("set of the droplet " + rank + " from 65535 on", x.kept(0, rank, 0), x.kept(1, rank, 0));
        }
        is("cup 0 knows what cup 1 knows", x.ofCup(0, 0), x.ofCup(1, 0));
        is("degree of the last one, and the one behind it", x.degrees(65535, 2, x.droplet(0, 0)),
            x.droplet(65535, 0) == x.droplet(0, 0) ? 2 : 1);
        is("the last one alone", x.degrees(65535, 1, x.droplet(65535, 0)), 1);
        // with four chapters seed 65535 has {1, 3}, 0 {0, 2}, 1 {0, 1, 3} and 2 {1}: that is enough
        BookDroplets y = Books.book(4, 1);
        is("needs from the last but one on", y.needs(0, 65534), 5);
        is("needs from the last one on", y.needs(0, 65535), 4);
        is("pour of so many", y.pour(0, 65535, 4), 4);
    }

    private static void manyBehindTheLastSeed() {
        BookDroplets x = Books.book(16, 0);
        for (int degree = 1; degree <= 4; degree++) {
            int due = 0;
            for (int i = 0; i < 999; i++) {
                int seed = 65000 + i < 65536 ? 65000 + i : 65000 + i - 65536;
                due += degreeOfWay1(seed) == degree ? 1 : 0;
            }
            is("degrees(65000, 999, " + degree + ")", x.degrees(65000, 999, degree), due);
        }
        BookDroplets y = Books.book(16, 1);
        y.cup();
        is("learnt by 99 from 65500 on", y.pour(0, 65500, 99), y.pour(1, 65500, 36) + y.pour(1, 0, 63));
        is("kept", y.ofCup(0, 1), y.ofCup(1, 1));
        for (int rank = 0; rank < y.ofCup(1, 1); rank++) {
            is("kept(0, " + rank + ", 0)", y.kept(0, rank, 0), y.kept(1, rank, 0));
        }
    }

    private static int degreeOfWay1(int seed) {
        int y = Draws.draw(seed, 2) % 24;
        return y < 4 ? 1 : y < 16 ? 2 : y < 20 ? 3 : 4;
    }

    // "the droplet is lost if x left over by 100 is below LOSS"
    private static void lostIfBelowLoss() {
        for (int loss = 0; loss <= 99; loss++) {
            int at = loss;
            BookDroplets x = Books.book(4, 1);
            x.set(LOSS, loss);
            int stays = Draws.firstSeed("not lost at " + loss, seed -> Draws.draw(seed, 1) % 100 == at);
            is("droplet that is just not lost at " + loss, x.droplet(stays, 3), 0);
            is("would of it", x.would(0, stays) == 0 ? 0 : 1, 1);
            if (loss > 0) {
                int goes = Draws.firstSeed("lost at " + loss, seed -> Draws.draw(seed, 1) % 100 == at - 1);
                is("droplet that is just lost at " + loss, x.droplet(goes, 3), 1);
                is("would of the lost one", x.would(0, goes), 0);
            }
            x.set(LOSS, 0);
            is("no droplet is lost at 0", x.droplet(stays, 3), 0);
        }
    }

    // "2 droplets that were poured so far ..., 3 of these lost, 4 useless as they were poured"
    private static void lostCountOnlyAsPouredAndLost() {
        BookDroplets x = Books.book(4, 1);
        x.set(LOSS, 99);
        int first = Draws.firstOfLost(99, 99);
        is("learnt by 99 lost ones", x.pour(0, first, 99), 0);
        int[] due = {0, 0, 99, 99, 0, 0, 0};
        for (int what = 0; what < due.length; what++) {
            is("ofCup(0, " + what + ") with 99 lost ones", x.ofCup(0, what), due[what]);
        }
        is("poured into all", x.count(3), 99);
        x.pour(0, first + 99, 1);
        is("the hundredth is not lost", x.ofCup(0, 3), 99);
        is("the hundredth is poured", x.ofCup(0, 2), 100);
    }

    private interface Degree {
        int of(int draw, int chapters);
    }

    /** For each book there can be a droplet for each left over, and one for each end of the seeds. */
    private static void degreesBy(int way, int leftOverBy, Degree due) {
        for (int n = 1; n <= 16; n++) {
            BookDroplets x = Books.book(n, 0);
            x.set(WAY, way);
            int by = leftOverBy == 0 ? n : leftOverBy;
            for (int left = 0; left < by; left++) {
                int wanted = left;
                int seed = Draws.firstSeed("left over " + left + " by " + by, s -> Draws.draw(s, 2) % by == wanted);
                int degree = due.of(Draws.draw(seed, 2), n);
                is("degree by WAY " + way + " of " + seed + " in a book of " + n, x.droplet(seed, 0), degree);
                is("chapters of it", Integer.bitCount(x.droplet(seed, 1)), degree);
            }
            for (int seed : new int[] {0, 65535}) {
                is("degree by WAY " + way + " of " + seed + " in a book of " + n, x.droplet(seed, 0),
                    due.of(Draws.draw(seed, 2), n));
            }
        }
    }

    // "WAY 0: 1 and x left over by n"
    private static void degreesOfWay0() {
        degreesBy(0, 0, (draw, n) -> 1 + draw % n);
    }

    // "1 if y is below 4, 2 if it is below 16, 3 if it is below 20, otherwise 4; but at most n"
    private static void degreesOfWay1() {
        int[] degrees = {1, 1, 1, 1, 2, 2, 2, 2, 2, 2, 2, 2, 2, 2, 2, 2, 3, 3, 3, 3, 4, 4, 4, 4};
        degreesBy(1, 24, (draw, n) -> Math.min(n, degrees[draw % 24]));
    }

    // "1 if x left over by 4 is 0, otherwise n"
    private static void degreesOfWay2() {
        degreesBy(2, 4, (draw, n) -> draw % 4 == 0 ? 1 : n);
    }

    // "the chapter x left over by n, or, if it has that, the next one that it has not (behind the last one comes 0)"
    private static void nextChapterThatItHasNot() {
        for (int n : new int[] {4, 15, 16}) {
            BookDroplets x = Books.book(n, 0);
            int last = n - 1;
            chaptersDrawn(x, n, "the last one", 1 << last, last);
            chaptersDrawn(x, n, "one twice", 0b11, 0, 0);
            chaptersDrawn(x, n, "the last one twice", 1 << last | 1, last, last);
            chaptersDrawn(x, n, "the last one three times", 1 << last | 0b11, last, last, last);
            chaptersDrawn(x, n, "the last but one three times", 0b11 << last - 1 | 1, last - 1, last - 1, last - 1);
            chaptersDrawn(x, n, "the last one twice, then 0", 1 << last | 0b11, last, last, 0);
            chaptersDrawn(x, n, "one behind the next", 0b111, 1, 0, 0);
        }
        BookDroplets all = Books.book(16, 0);
        all.set(WAY, 2);
        is("all of sixteen", all.droplet(Draws.firstSeed("all", s -> Draws.draw(s, 2) % 4 != 0), 1), 65535);
    }

    private static void chaptersDrawn(BookDroplets x, int n, String what, int set, int... chapters) {
        IntPredicate wanted = seed -> {
            if (degreeOfWay1(seed) != chapters.length) {
                return false;
            }
            for (int i = 0; i < chapters.length; i++) {
                if (Draws.draw(seed, 3 + i) % n != chapters[i]) {
                    return false;
                }
            }
            return true;
        };
        is(what + ", of " + n, x.droplet(Draws.firstSeed(what, wanted), 1), set);
    }

    // "There are up to 3 cups, numbered in the order in which they came."
    private static void upToThreeCups() {
        BookDroplets x = Books.book(4, 0);
        is("no cup", x.ofCup(0, 0), NO_SUCH);
        for (int cup = 0; cup < 3; cup++) {
            is("cup " + cup, x.cup(), cup);
            is("pour into it", x.pour(cup, 2, 1), 1);
            is("the next one is not there", x.ofCup(cup + 1, 0), NO_SUCH);
        }
        is("cup 3", x.cup(), TOO_MANY);
        is("cups", x.count(1), 3);
        x.pour(2, 10, 1);
        x.pour(0, 12, 1);
        is("cup 0 for itself", x.ofCup(0, 0), 0b1010);
        is("cup 1 for itself", x.ofCup(1, 0), 0b0010);
        is("cup 2 for itself", x.ofCup(2, 0), 0b0110);
        x.empty(1);
        is("cups behind empty()", x.count(1), 3);
        is("cup 3 behind empty()", x.cup(), TOO_MANY);
    }

    // "(with an empty book each one is)"; "NOT_POSSIBLE if the book is empty"
    private static void emptyBook() {
        BookDroplets x = new BookDroplets();
        is("no full cup", x.count(2), 0);
        for (int cup = 0; cup < 3; cup++) {
            x.cup();
            is("full cups of an empty book", x.count(2), (2 << cup) - 1);
            is("full", x.ofCup(cup, 5), 1);
            is("knows none", x.ofCup(cup, 0) + x.ofCup(cup, 6), 0);
            is("pour", x.pour(cup, 0, 1), NOT_POSSIBLE);
            is("would", x.would(cup, 0), NOT_POSSIBLE);
            is("needs, although it is full", x.needs(cup, 0), NOT_POSSIBLE);
            is("empty", x.empty(cup), 0);
            is("solve", x.solve(cup), 0);
            is("known", x.known(cup, 0), NO_SUCH);
        }
        is("droplet", x.droplet(0, 3), NOT_POSSIBLE);
        is("degrees", x.degrees(0, 1, 1), NOT_POSSIBLE);
    }

    // "with an empty set it is useless; with one chapter in it, that is learnt ...; with more, the droplet is kept"
    private static void whatIsLeftOfASet() {
        BookDroplets x = sixteenByWay0();
        is("{0} is learnt", pourSet(x, 1), 1);
        is("would of {0}", x.would(0, seedOf(1)), 1);
        is("{0} again is useless", pourSet(x, 1), 0);
        is("useless", x.ofCup(0, 4), 1);
        is("would of {0, 1}", x.would(0, seedOf(0b11)), 3);
        is("{0, 1} is learnt", pourSet(x, 0b11), 1);
        is("known(0, 1)", x.known(0, 1), 2);
        is("would of {1, 2, 3}", x.would(0, seedOf(0b1110)), 2);
        is("{1, 2, 3} is kept", pourSet(x, 0b1110), 0);
        is("what is kept of it", x.kept(0, 0, 0), 0b1100);
        is("its number", x.kept(0, 0, 1), 0b1100);
        is("{0, 1} is useless", pourSet(x, 0b11), 0);
        is("useless, then", x.ofCup(0, 4), 2);
        is("keeps one", x.ofCup(0, 1), 1);
        is("poured", x.ofCup(0, 2), 5);
        for (int known : new int[] {0, 15}) {
            int other = 15 - known;
            BookDroplets y = sixteenByWay0();
            pourSet(y, 1 << known);
            is("{0, 15} is learnt, as one is known", pourSet(y, 1 << 15 | 1), 1);
            is("known(0, " + other + ")", y.known(0, other), 1 << other);
            y.empty(0);
            pourSet(y, 1 << known);
            pourSet(y, 1 << 15 | 0b111);
            is("without chapter " + known, y.kept(0, 0, 0), (1 << 15 | 0b111) & ~(1 << known));
            is("its number without chapter " + known, y.kept(0, 0, 1), (1 << 15 | 0b111) & ~(1 << known));
        }
    }

    // "keeps droplets (at most 24)"; "kept behind the others, if there is room, otherwise it is useless"
    private static void twentyFourKept() {
        BookDroplets x = sixteenByWay0();
        int pair = seedOf(0b11);
        int other = seedOf(0b110000);
        for (int i = 0; i < 23; i++) {
            x.pour(0, pair, 1);
        }
        is("keeps 23", x.ofCup(0, 1), 23);
        is("would be kept as the 24th", x.would(0, other), 2);
        is("the 24th is kept", x.pour(0, other, 1), 0);
        is("keeps 24", x.ofCup(0, 1), 24);
        is("useless up to here", x.ofCup(0, 4), 0);
        is("it is kept behind the others", x.kept(0, 23, 0), 0b110000);
        is("its number", x.kept(0, 23, 1), 0b110000);
        is("the one ahead of it", x.kept(0, 22, 0), 0b11);
        is("there is none behind it", x.kept(0, 24, 0), NO_SUCH);
        is("would be useless as the 25th", x.would(0, pair), 1);
        is("the 25th is useless", x.pour(0, pair, 1), 0);
        is("keeps 24 still", x.ofCup(0, 1), 24);
        is("useless", x.ofCup(0, 4), 1);
        x.save(0);
        is("would be learnt without room", x.would(0, seedOf(0b100000)), 4);
        is("is learnt without room", pourSet(x, 0b100000), 2);
        is("keeps 23 then", x.ofCup(0, 1), 23);
        is("could be known then", x.ofCup(0, 6), 2);
        is("the last one then", x.kept(0, 22, 0), 0b11);
        is("its number then", x.kept(0, 22, 1), 0b11);
        is("there is room for one", x.pour(0, seedOf(0b1100), 1), 0);
        is("it is the last one", x.kept(0, 23, 0), 0b1100);
        is("useless is none of these", x.ofCup(0, 4), 1);
        x.restore(0);
        is("the last one comes back", x.kept(0, 23, 0), 0b110000);
        is("with its number", x.kept(0, 23, 1), 0b110000);
    }

    // "as long as there is a droplet that is kept whose set has fewer than two chapters"
    private static void peelingOfTwentyFour() {
        BookDroplets x = sixteenByWay0();
        int pair = seedOf(0b11);
        for (int i = 0; i < 24; i++) {
            x.pour(0, pair, 1);
        }
        is("both are learnt by one of them", pourSet(x, 0b10), 2);
        is("none is kept", x.ofCup(0, 1), 0);
        is("those that are taken away empty are not useless", x.ofCup(0, 4), 0);
        is("known(0, 0)", x.known(0, 0), 1);
        is("known(0, 1)", x.known(0, 1), 2);
        for (int i = 0; i < 23; i++) {
            x.pour(0, seedOf(0b1100), 1);
        }
        is("the last of 24 is peeled off, too", x.pour(0, seedOf(0b11000), 1), 0);
        is("three are learnt", pourSet(x, 0b100), 3);
        is("none is kept any more", x.ofCup(0, 1), 0);
    }

    /** Of 24 one is taken away: those behind it come one rank nearer. */
    private static void takenAwayOfTwentyFour() {
        for (int away : new int[] {0, 11, 22, 23}) {
            BookDroplets x = sixteenByWay0();
            List<Integer> sets = new ArrayList<>();
            for (int i = 0; i < 24; i++) {
                int set = i == away ? 0b11 : 0b100 << i % 12 | 1 << 15;
                sets.add(set);
                is("is kept", pourSet(x, set), 0);
            }
            is("keeps 24", x.ofCup(0, 1), 24);
            is("learns two", pourSet(x, 1), 2);
            sets.remove(away);
            is("keeps 23", x.ofCup(0, 1), 23);
            for (int rank = 0; rank < 23; rank++) {
                is("set of " + rank + " without " + away, x.kept(0, rank, 0), sets.get(rank));
                is("number of " + rank + " without " + away, x.kept(0, rank, 1), sets.get(rank));
            }
            is("there is no 24th", x.kept(0, 23, 0), NO_SUCH);
        }
    }

    /** {0, 1}, {1, 2} and so on wait, the last ones first, until chapter 0 or 15 comes. */
    private static void peelingOfSixteen() {
        BookDroplets x = sixteenByWay0();
        for (int i = 14; i >= 0; i--) {
            pourSet(x, 0b11 << i);
        }
        is("keeps 15", x.ofCup(0, 1), 15);
        is("none could be known by solving", x.ofCup(0, 6), 0);
        x.save(0);
        for (int chapter : new int[] {0, 7, 15}) {
            is("would of {" + chapter + "}", x.would(0, seedOf(1 << chapter)), 18);
            is("needs of it", x.needs(0, seedOf(1 << chapter)), 1);
            is("all are learnt by it", pourSet(x, 1 << chapter), 16);
            is("all are known", x.ofCup(0, 0), 65535);
            for (int i = 0; i < 16; i++) {
                is("known(0, " + i + ")", x.known(0, i), 1 << i);
            }
            is("none is kept", x.ofCup(0, 1), 0);
            is("none is useless", x.ofCup(0, 4), 0);
            is("restore", x.restore(0), 1);
        }
    }

    // "the first such one is taken away"; what stays keeps its order
    private static void theFirstSuchOneIsTakenAway() {
        BookDroplets x = sixteenByWay0();
        int[] sets = {0b11, 0b11100, 0b110, 0b1100000, 0b11, 0b10010000, 0b1010};
        for (int set : sets) {
            pourSet(x, set);
        }
        is("keeps all", x.ofCup(0, 1), sets.length);
        is("learns 0, 1, 2 and 3, and so 4, 7", pourSet(x, 1), 6);
        is("keeps one", x.ofCup(0, 1), 1);
        is("that", x.kept(0, 0, 0), 0b1100000);
        pourSet(x, 0b1100000000);
        pourSet(x, 0b11000100000);
        pourSet(x, 0b11100000000);
        is("learns 5 and 6", pourSet(x, 0b100001), 2);
        int[] left = {0b1100000000, 0b11000000000, 0b11100000000};
        for (int rank = 0; rank < left.length; rank++) {
            is("kept(0, " + rank + ", 0)", x.kept(0, rank, 0), left[rank]);
            is("kept(0, " + rank + ", 1)", x.kept(0, rank, 1), left[rank]);
        }
        is("no more is kept", x.kept(0, left.length, 0), NO_SUCH);
    }

    // "A cup is full if it knows all chapters"
    private static void fullIfAllAreKnown() {
        for (int missing : new int[] {0, 7, 15}) {
            BookDroplets x = sixteenByWay0();
            for (int i = 0; i < 16; i++) {
                if (i != missing) {
                    pourSet(x, 1 << i);
                }
            }
            is("knows 15", Integer.bitCount(x.ofCup(0, 0)), 15);
            is("is not full", x.ofCup(0, 5), 0);
            is("no full cups", x.count(2), 0);
            is("needs one", x.needs(0, seedOf(1 << missing)), 1);
            pourSet(x, 1 << missing);
            is("is full", x.ofCup(0, 5), 1);
            is("full cups", x.count(2), 1);
            is("needs none", x.needs(0, 0), 0);
            is("would be useless", x.would(0, 0), 1);
            is("could be known", x.ofCup(0, 6), 16);
            is("empty() of a full cup", x.empty(0), 16);
            is("is not full when it was emptied", x.ofCup(0, 5), 0);
            x.undo();
            is("is full without empty()", x.ofCup(0, 5), 1);
            for (int i = 0; i < 16; i++) {
                is("known(0, " + i + ") without empty()", x.known(0, i), 1 << i);
            }
        }
    }

    // "it knows and keeps nothing then"; "2 droplets that were poured so far (since it was emptied)"
    private static void emptyForgetsAll() {
        BookDroplets x = sixteenByWay0();
        for (int i = 0; i < 25; i++) {
            x.pour(0, seedOf(0b11), 1);
        }
        x.set(LOSS, 99);
        x.pour(0, Draws.firstOfLost(3, 99), 3);
        x.set(LOSS, 0);
        is("lost", x.ofCup(0, 3), 3);
        is("useless", x.ofCup(0, 4), 1);
        is("empty() of a cup that knows none", x.empty(0), 0);
        for (int what = 0; what <= 6; what++) {
            is("ofCup(0, " + what + ") of an emptied cup", x.ofCup(0, what), 0);
        }
        is("solve() of an emptied cup", x.solve(0), 0);
        is("poured into all", x.count(3), 28);
        is("{0} brings {0} alone", pourSet(x, 1), 1);
        is("no more could be known", x.ofCup(0, 6), 1);
        is("no more is learnt by solve()", x.solve(0), 0);
        is("poured since then", x.ofCup(0, 2), 1);
        is("poured into all, then", x.count(3), 29);
        is("empty() of one chapter", x.empty(0), 1);
        is("empty() twice", x.empty(0), 0);
        pourSet(x, 0b110);
        is("what was kept ahead is gone", x.kept(0, 0, 0), 0b110);
        is("its number", x.kept(0, 0, 1), 0b110);
    }

    private static void solvingOfNothing() {
        BookDroplets x = sixteenByWay0();
        is("solve() of a cup that keeps none", x.solve(0), 0);
        pourSet(x, 0b11);
        is("solve() of one that keeps one", x.solve(0), 0);
        pourSet(x, 0b11);
        is("solve() of the same twice", x.solve(0), 0);
        is("keeps both", x.ofCup(0, 1), 2);
        pourSet(x, 0b101);
        pourSet(x, 0b110);
        is("solve() of {0, 1}, {0, 2} and {1, 2}", x.solve(0), 0);
        is("keeps all four", x.ofCup(0, 1), 4);
        is("could be known", x.ofCup(0, 6), 0);
        pourSet(x, 0b111);
        is("could be known, then", x.ofCup(0, 6), 3);
        is("solve() of {0, 1, 2} with them", x.solve(0), 3);
        is("keeps none", x.ofCup(0, 1), 0);
        is("solve() twice", x.solve(0), 0);
    }

    /** {0, 1} + {1, 2} + .. + {13, 14} + {0, 14, 15} is {15}; with one of them less nothing follows. */
    private static void solvingByFifteen() {
        BookDroplets x = sixteenByWay0();
        for (int i = 0; i < 10; i++) {
            pourSet(x, 1 << 15 | 1 << 14 | 1);
        }
        for (int i = 13; i >= 0; i--) {
            is("could be known, by too few", x.ofCup(0, 6), 0);
            is("solve(), by too few", x.solve(0), 0);
            pourSet(x, 0b11 << i);
        }
        is("could be known", x.ofCup(0, 6), 1);
        is("would of {15}, that could be known", x.would(0, seedOf(1 << 15)), 3);
        is("solve()", x.solve(0), 1);
        is("keeps 24", x.ofCup(0, 1), 24);
        is("knows 15", x.ofCup(0, 0), 1 << 15);
        is("known(0, 15)", x.known(0, 15), 1 << 15);
        is("what is left of {0, 14, 15}", x.kept(0, 9, 0), 1 << 14 | 1);
        is("its number", x.kept(0, 9, 1), 1 << 14 | 1);
        is("the last one", x.kept(0, 23, 0), 0b11);
        is("could be known, that it knows", x.ofCup(0, 6), 1);
    }

    /** Twenty-four are kept, and only the first and the last one together bring a chapter. */
    private static void solvingByTheFirstAndTheLast() {
        for (int chapter : new int[] {0, 15}) {
            solvingByTwo(chapter, 0b110, 0b110 | 1 << chapter);
            solvingByTwo(chapter, 0b110 | 1 << chapter, 0b110);
        }
    }

    private static void solvingByTwo(int chapter, int first, int last) {
        BookDroplets x = sixteenByWay0();
        pourSet(x, first);
        for (int i = 0; i < 22; i++) {
            pourSet(x, 0b1100000);
        }
        is("could be known without the last", x.ofCup(0, 6), 0);
        pourSet(x, last);
        is("keeps 24", x.ofCup(0, 1), 24);
        is("could be known by the first and the last", x.ofCup(0, 6), 1);
        is("solve()", x.solve(0), 1);
        is("known(0, " + chapter + ")", x.known(0, chapter), 1 << chapter);
        is("keeps 24 still", x.ofCup(0, 1), 24);
        for (int rank : new int[] {0, 23}) {
            is("what is left of " + rank, x.kept(0, rank, 0), 0b110);
            is("its number", x.kept(0, rank, 1), 0b110);
        }
        is("solve() again", x.solve(0), 0);
    }

    // "Returns how many (0 if it is); ...; NONE if 500 are too few."
    private static void needsOfTooMany() {
        BookDroplets x = Books.book(1, 1);
        x.set(LOSS, 99);
        int first = Draws.firstOfLost(500, 99);
        int arrives = first + 500;
        is("needs 1", x.needs(0, arrives), 1);
        is("needs 2", x.needs(0, arrives - 1), 2);
        is("needs 499", x.needs(0, arrives - 498), 499);
        is("needs 500", x.needs(0, arrives - 499), 500);
        is("needs 501", x.needs(0, first), NONE);
        is("learnt by the one that arrives", x.pour(0, arrives, 1), 1);
        is("needs 0", x.needs(0, first), 0);
    }

    // "many: 1 to 999"; "degree: 1 to 16"; "(lost ones too)"
    private static void degreesOfAll() {
        BookDroplets x = Books.book(1, 0);
        for (int way = 0; way <= 2; way++) {
            x.set(WAY, way);
            is("one of one chapter, WAY " + way, x.degrees(0, 1, 1), 1);
            is("999 of one chapter, WAY " + way, x.degrees(0, 999, 1), 999);
            is("999 of two chapters, WAY " + way, x.degrees(0, 999, 2), 0);
        }
        BookDroplets y = Books.book(16, 0);
        y.set(WAY, 2);
        List<Integer> due = new ArrayList<>(List.of(0, 0));
        for (int seed = 0; seed < 999; seed++) {
            int small = Draws.draw(seed, 2) % 4 == 0 ? 0 : 1;
            due.set(small, due.get(small) + 1);
        }
        for (int loss : new int[] {0, 99}) {
            y.set(LOSS, loss);
            is("of degree 1, LOSS " + loss, y.degrees(0, 999, 1), due.get(0));
            is("of degree 15, LOSS " + loss, y.degrees(0, 999, 15), 0);
            is("of degree 16, LOSS " + loss, y.degrees(0, 999, 16), due.get(1));
        }
    }

    // "An object is used for at most 512 calls after it has been made"
    private static void fiveHundredAndTwelveCalls() {
        BookDroplets x = Books.book(4, 1);
        int learnt = 0;
        for (int call = 6; call <= 511; call++) {
            learnt += x.pour(0, call, 99);
        }
        is("the 512th call: poured", x.count(3), 506 * 99);
        is("learnt by them", learnt, 4);
    }
}
