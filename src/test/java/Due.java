/** Counts the answers that a test looked at, and prints those that are not the due ones. */
final class Due {
    private static int right = 0;
    private static int wrong = 0;

    private Due() {
    }

    static void is(String call, long got, long due) {
        if (got == due) {
            right++;
        } else {
            wrong++;
            System.out.println(call + " answered " + got + ", due is " + due);
        }
    }

    static void end() {
        System.out.println("answers: " + right + " passed, " + wrong + " failed");
        if (wrong != 0 || right == 0) {
            System.exit(1);
        }
    }

    /** Puts a text of any length on the pad; answers what the last put() answered. */
    static int type(BookDroplets x, String text) {
        int answer = 0;
        for (int i = 0; i < text.length(); i += 8) {
            answer = x.put(packed(text.substring(i, Math.min(text.length(), i + 8))));
        }
        return answer;
    }

    static long packed(String text) {
        long characters = 0;
        for (int i = 0; i < text.length(); i++) {
            characters = characters << 8 | text.charAt(i);
        }
        return characters;
    }
}
