/** Texts, as Sentence reads them, that make an alp where all that a call could touch is there. */
final class Alps {
    /** YEAR 1 with ENTRIES of each kind, losses, CHEESES and WORK, CLOSED. */
    static final String FIRST_YEAR = """
        alp(3) | height(0, 50, 90, 2) | height(1, 40, 80, 3) | height(2, 30, 20, 4) | sheep(0..4)
        act(0, 0..3, 1, 0) | act(2, 3, 2, 0) | act(1, 2, 2, 0) | act(3, 1, 2, 5)
        milking(1) | milk(0, 1000) | milk(1, 500) | milk(2, 300) | milk(4, 70)
        move(0) | day(5, 3) | day(6, 30) | move(NONE) | rules 'l7;m300;w20;v55' = 0 | work(3, 9) | close(10)
        """;

    /** YEAR 2, DAY 2: THE FLOCK is at HEIGHT 1, THE PASS is shut, SHEEP 3 is DEAD since YEAR 1. */
    static final String SECOND_YEAR = FIRST_YEAR + """
        act(0, 0, 1, 0) | act(0, 1, 2, 0) | act(3, 2, 1, 7) | act(1, 0, 3, 0)
        milking(2) | milk(0..2, 400) | milk(4, 50) | move(0) | move(1) | day(3, 0) | day(2, 40) | way(3, 5)
        feed 'l1234;m567;w89;v1000'
        """;

    private Alps() {
    }

    /** The text without the answers that are due. */
    static String bare(String text) {
        return text.replaceAll(" = \\d+", "");
    }
}
