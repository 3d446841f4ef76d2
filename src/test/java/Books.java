/** Objects that the tests begin with. */
final class Books {
    private Books() {
    }

    /** A book whose chapters are 1, 2, 4 and so on, so that a droplet's number is its set. */
    static BookDroplets book(int chapters, int cups) {
        BookDroplets x = new BookDroplets();
        for (int i = 0; i < chapters; i++) {
            x.chapter(1 << i);
        }
        for (int i = 0; i < cups; i++) {
            x.cup();
        }
        return x;
    }
}
