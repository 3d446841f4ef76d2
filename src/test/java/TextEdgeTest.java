/** The boundary cases of the pad and its texts: put, wipe, fault and carryOut. */
public final class TextEdgeTest {
    private static final int BAD_VALUE = -2, BAD_TEXT = -3, TOO_MANY = -4, NONE = -6;
    private static final char FIRST = 33, LAST = 126;
    private static final String[] PLACES = {"first of a number of c", "first of a seed", "first of a many"};
    private static final String[] AHEAD = {"c", "p7.", "p7.8*"};

    public static void main(String[] args) {
        eachSignAtEachPlace();
        textThatEndsTooEarly();
        textThatIsEmpty();
        numbersUpTo65535();
        firstDigitAbove65535();
        leadingZeros();
        firstFaultCounts();
        codesOfCharacters();
        bitsAboveTheEnd();
        oneToEightCharacters();
        padOfEighty();
        fullPadIsRead();
        ordersOfAPad();
        wipeOfAnyLength();
        carryOutOfNoOrder();
        carryOutOfSmallestAndGreatest();
        Due.end();
    }

    private static void is(String call, long got, long due) {
        Due.is(call, got, due);
    }

    private static int faultOf(String text) {
        BookDroplets x = new BookDroplets();
        Due.type(x, text);
        return x.fault();
    }

    /** "The fault is the index of the first character that cannot stand at its place". */
    private static void eachSignAtEachPlace() {
        String digits = "0123456789";
        String[][] rows = {
            {"", "cups"}, {"u;", "cups"}, {"s0;", "cups"}, {"c0;", "cups"}, {"c65535;", "cups"}, {"p0.0;", "cups"}, {"p0.0*0;", "cups"},
            {"u", ";"}, {"s", digits}, {"s0", ";"}, {"s9", ";"}, {"c", digits}, {"c0", ";"}, {"c1", digits + ";"}, {"c9", digits + ";"},
            {"c10", digits + ";"}, {"c6552", digits + ";"}, {"c6553", "012345;"}, {"c6554", ";"}, {"c9999", ";"}, {"c10000", ";"},
            {"c65535", ";"}, {"p", digits}, {"p0", "."}, {"p9", "."}, {"p0.", digits}, {"p0.0", ";*"}, {"p0.5", digits + ";*"},
            {"p0.6553", "012345;*"}, {"p0.65535", ";*"}, {"p0.0*", digits}, {"p0.5*", digits}, {"p0.5*0", ";"}, {"p0.5*5", digits + ";"},
            {"p0.5*6553", "012345;"}, {"p0.5*65535", ";"}, {"u;p3.1*20;s1;c44;u", ";"},
        };
        for (String[] row : rows) {
            String start = row[0];
            for (char sign = FIRST; sign <= LAST; sign++) {
                boolean stands = row[1].indexOf(sign) >= 0;
                int fault = faultOf(start + sign);
                boolean isRight = stands ? fault == NONE || fault == start.length() + 1 : fault == start.length();
                is("fault " + fault + " of " + start + sign, isRight ? 1 : 0, 1);
            }
        }
    }

    /** "if there is none and the text ends too early ..., it is the length of the text". */
    private static void textThatEndsTooEarly() {
        String text = "c12;u;p0.7*30;s0;p9.0";
        String ends = "|c1|c12|c12;u|c12;u;p0.7|c12;u;p0.7*3|c12;u;p0.7*30|c12;u;p0.7*30;s0|c12;u;p0.7*30;s0;p9.0|";
        for (int length = 0; length <= text.length(); length++) {
            String start = text.substring(0, length);
            boolean isWhole = length > 0 && ends.contains("|" + start + "|");
            is("fault of " + start, faultOf(start), isWhole ? NONE : length);
            BookDroplets x = new BookDroplets();
            Due.type(x, start);
            int answer = x.carryOut();
            is("carryOut of " + start, answer == BAD_TEXT ? 0 : 1, isWhole ? 1 : 0);
            is("length behind carryOut of " + start, x.count(6), isWhole ? 0 : length);
        }
    }

    /** "(also if it is empty)". */
    private static void textThatIsEmpty() {
        BookDroplets x = new BookDroplets();
        is("fault of a new pad", x.fault(), 0);
        is("carryOut of a new pad", x.carryOut(), BAD_TEXT);
        x.put('u');
        x.wipe();
        is("fault of a wiped pad", x.fault(), 0);
        is("carryOut of a wiped pad", x.carryOut(), BAD_TEXT);
        x.put('u');
        x.carryOut();
        is("fault behind carryOut", x.fault(), 0);
        is("carryOut behind carryOut", x.carryOut(), BAD_TEXT);
        is("one change", x.count(7), 1);
    }

    /** "a number 0 to 65535". */
    private static void numbersUpTo65535() {
        for (int number : new int[] {0, 1, 9, 10, 99, 100, 999, 1000, 9999, 10000, 59999, 60000, 65499, 65500, 65529, 65530, 65534, 65535}) {
            for (String ahead : AHEAD) {
                is("fault of " + ahead + number, faultOf(ahead + number), NONE);
            }
            BookDroplets x = new BookDroplets();
            Due.type(x, "c" + number + ";u");
            is("carryOut of " + number, x.carryOut(), 2);
            is("the chapter's number", x.droplet(0, 2), number);
        }
    }

    /** "(also of a digit by which a number would be above 65535)". */
    private static void firstDigitAbove65535() {
        String[] numbers = {"65536", "65537", "65539", "65540", "65600", "66000", "70000", "99999", "655360", "655350", "100000", "99990",
            "4294967296", "4294967297", "18446744073709551617", "2147483648"};
        int[] faults = {4, 4, 4, 4, 4, 4, 4, 4, 4, 5, 5, 4, 5, 5, 5, 5};
        for (int i = 0; i < numbers.length; i++) {
            for (int k = 0; k < AHEAD.length; k++) {
                String text = AHEAD[k] + numbers[i];
                is("fault of " + text + ", " + PLACES[k], faultOf(text), AHEAD[k].length() + faults[i]);
                is("fault of " + text + ";u", faultOf(text + ";u"), AHEAD[k].length() + faults[i]);
            }
        }
    }

    /** "without leading zeros". */
    private static void leadingZeros() {
        for (String ahead : AHEAD) {
            is("fault of " + ahead + "0", faultOf(ahead + "0"), NONE);
            is("fault of " + ahead + "00", faultOf(ahead + "00"), ahead.length() + 1);
            is("fault of " + ahead + "01", faultOf(ahead + "01"), ahead.length() + 1);
            is("fault of " + ahead + "000065535", faultOf(ahead + "000065535"), ahead.length() + 1);
            is("fault of " + ahead + "10", faultOf(ahead + "10"), NONE);
        }
        is("fault of s00", faultOf("s00"), 2);
        is("fault of p00.1", faultOf("p00.1"), 2);
    }

    private static void firstFaultCounts() {
        is("fault of two faults", faultOf("c01;x"), 2);
        is("fault ahead of an end that is too early", faultOf("u,p"), 1);
        is("fault in the second order", faultOf("u;c65536;;"), 7);
        is("fault of an order that will be refused", faultOf("u;u;u;u;c5;p9.1;s9;p0.0*0"), NONE);
    }

    /** "BAD_VALUE if ... a code is not 33 to 126", at each of the eight places. */
    private static void codesOfCharacters() {
        for (int place = 0; place < 8; place++) {
            long others = 0;
            for (int i = 0; i < 8; i++) {
                others |= i == place ? 0 : (long) 'u' << 8 * i;
            }
            for (int code = 1; code <= 255; code++) {
                BookDroplets x = new BookDroplets();
                boolean stands = code >= FIRST && code <= LAST;
                is("put of " + code + " at " + place + " of eight", x.put(others | (long) code << 8 * place), stands ? 8 : BAD_VALUE);
                is("length", x.count(6), stands ? 8 : 0);
            }
        }
    }

    /** "8 bits that are 0 mean that there are no more characters, and everything above them has to be 0, too". */
    private static void bitsAboveTheEnd() {
        for (int many = 0; many <= 7; many++) {
            long characters = 0;
            for (int i = 0; i < many; i++) {
                characters |= (long) 'u' << 8 * i;
            }
            is("put of " + many, new BookDroplets().put(characters), many == 0 ? BAD_VALUE : many);
            for (int bit = 8 * many + 8; bit < 64; bit++) {
                is("put of " + many + " with bit " + bit, new BookDroplets().put(characters | 1L << bit), BAD_VALUE);
            }
        }
    }

    /** "characters: 1 to 8 characters"; "its lowest 8 bits are the last character". */
    private static void oneToEightCharacters() {
        String text = "p0.65535*7";
        for (int many = 1; many <= 8; many++) {
            BookDroplets x = new BookDroplets();
            int length = 0;
            for (int i = 0; i < text.length(); i += many) {
                String piece = text.substring(i, Math.min(text.length(), i + many));
                length += piece.length();
                is("put of " + piece, x.put(Due.packed(piece)), length);
            }
            is("fault of what was put by " + many, x.fault(), NONE);
        }
    }

    /** "TOO_MANY if the pad would be longer than 80". */
    private static void padOfEighty() {
        for (int length = 70; length <= 80; length++) {
            for (int more = 1; more <= 8; more++) {
                BookDroplets x = padOf(length);
                int due = length + more <= 80 ? length + more : TOO_MANY;
                is("put of " + more + " behind " + length, x.put(Due.packed("u;u;u;u;".substring(0, more))), due);
                is("length then", x.count(6), due == TOO_MANY ? length : due);
                is("wipe", x.wipe(), due == TOO_MANY ? length : due);
                is("put behind wipe", x.put('u'), 1);
            }
        }
    }

    private static BookDroplets padOf(int length) {
        BookDroplets x = new BookDroplets();
        for (int i = 0; i < length; i++) {
            x.put('u');
        }
        return x;
    }

    private static void fullPadIsRead() {
        is("fault of 80", faultOf("c12;u" + ";s0".repeat(25)), NONE);
        is("fault of 80 with a fault at the last one", faultOf("c12;u" + ";s0".repeat(24) + ";p;"), 79);
        is("fault of 80 that end too early", faultOf("c12;u" + ";s0".repeat(24) + ";p1"), 80);
        is("fault of 80 with a number at the end", faultOf("p0.1*22" + ";s0".repeat(22) + ";c65535"), NONE);
        is("fault of 80 with a number above 65535 at the end", faultOf("p0.1*22" + ";s0".repeat(22) + ";c65536"), 79);
        is("fault of 80 with no order between", faultOf("u" + ";u".repeat(38) + ";;u"), 78);
        is("fault of 80 with an order more at the end", faultOf("u" + ";u".repeat(39) + "u"), 79);
        is("fault of 80 that end with ;", faultOf("u" + ";u".repeat(39) + ";"), 80);
        is("fault of 79", faultOf("u" + ";u".repeat(39)), NONE);
    }

    /** As many orders as a pad can hold. */
    private static void ordersOfAPad() {
        BookDroplets x = new BookDroplets();
        Due.type(x, "c7;u" + ";s0".repeat(25));
        is("carryOut of 27 orders", x.carryOut(), 27);
        is("length then", x.count(6), 0);
        Due.type(x, "p0.0*99" + ";p0.65535*99".repeat(6));
        is("length of seven", x.count(6), 79);
        is("carryOut of seven", x.carryOut(), 7);
        is("poured", x.count(3), 693);
        BookDroplets y = new BookDroplets();
        Due.type(y, "c1" + ";c1".repeat(25) + ";u");
        is("length of 27", y.count(6), 79);
        is("carryOut up to the seventeenth chapter", y.carryOut(), 16);
        is("no cup came", y.count(1), 0);
        BookDroplets z = new BookDroplets();
        Due.type(z, "u" + ";u".repeat(39));
        is("carryOut up to the fourth cup", z.carryOut(), 3);
        BookDroplets w = new BookDroplets();
        w.cup();
        Due.type(w, "s0" + ";s0".repeat(26));
        is("length of 27 more", w.count(6), 80);
        is("carryOut of 27 more", w.carryOut(), 27);
        is("one change", w.count(7), 2);
    }

    private static void wipeOfAnyLength() {
        for (int length = 0; length <= 80; length++) {
            BookDroplets x = padOf(length);
            is("wipe of " + length, x.wipe(), length);
            is("wipe again", x.wipe(), 0);
            is("fault then", x.fault(), 0);
        }
    }

    /** "(one, with all of them; also if none is carried out)". */
    private static void carryOutOfNoOrder() {
        for (String text : new String[] {"s0", "p0.0", "s9;u", "p9.0;c5", "s0;s0"}) {
            BookDroplets x = new BookDroplets();
            Due.type(x, text);
            is("carryOut of " + text, x.carryOut(), 0);
            is("nothing came", x.count(0) + x.count(1), 0);
            is("it is a change", x.count(7), 1);
            is("the pad is empty", x.count(6), 0);
            is("undo", x.undo(), 0);
            is("the pad is not undone", x.count(6), 0);
        }
    }

    private static void carryOutOfSmallestAndGreatest() {
        BookDroplets x = new BookDroplets();
        Due.type(x, "c0;c65535;u;u;u");
        is("carryOut of c and u", x.carryOut(), 5);
        Due.type(x, "p0.0;p0.0*1;p1.65535*99;p2.65535;s0;s1;s2");
        is("carryOut of p and s", x.carryOut(), 7);
        is("poured into cup 0", x.ofCup(0, 2), 2);
        is("poured into cup 1", x.ofCup(1, 2), 99);
        is("poured into cup 2, one if it is left out", x.ofCup(2, 2), 1);
        BookDroplets y = new BookDroplets();
        Due.type(y, "c0;c65535;u;u;u");
        y.carryOut();
        is("as pour(1, 65535, 99)", y.pour(1, 65535, 99) + y.solve(1), Integer.bitCount(x.ofCup(1, 0)));
        is("useless, too", y.ofCup(1, 4), x.ofCup(1, 4));
        for (String text : new String[] {"p0.0*0", "p0.0*100", "p3.0", "s3", "u", "c5"}) {
            Due.type(x, text);
            is("carryOut of " + text, x.carryOut(), 0);
        }
        is("two changes, and six more", x.count(7), 6);
        is("nothing was poured by these", x.count(3), 102);
    }
}
