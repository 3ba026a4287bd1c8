/** The sentences of the document on THE BEST WAY, each at its edges: promises 17, 18. */
public final class WayEdgesTest {
    public static void main(String[] args) {
        arguments();
        firstStep();
        furtherSteps();
        daysOfAWay();
        bestOne();
        sheepOfAWay();
        step();
        Due.end();
    }

    private static void arguments() {
        Sentence.holds("A WAY ahead for n DAYS (1 to 8)", """
            height(0, 25, 100, 0) | sheep(0) | act(0, 0, 1, 0) | day(0, 0) | move(0)
            way(0, 0) = NONE | way(9, 0) = NONE | way(-1, 0) = NONE | way(MIN, 0) = NONE | way(MAX, 0) = NONE
            step(0) = NONE
            way(1, 0) = 0 | step(0) = 0 | step(1) = NONE
            way(8, 0) = 55 | step(0..7) = 0 | step(8) = NONE
            """);
        Sentence.holds("of one WARMTH (-30 to 40)", """
            height(0, 0, 100, 1) | sheep(0) | act(0, 0, 1, 0) | day(-30, 0) | move(0)
            way(1, -31) = NONE | way(1, 41) = NONE | way(1, MIN) = NONE | way(1, MAX) = NONE | step(0) = NONE
            way(1, -30) = 10 | way(1, 0) = 10 | way(1, 1) = 9 | way(1, 9) = 1 | way(1, 10) = 0 | way(1, 40) = 0
            """);
        Sentence.holds("way: NONE keeps the latest one", """
            alp(2) | height(1, 100, 100, 0) | sheep(0) | act(0, 0, 1, 0) | day(0, 0)
            way(2, 0) = 10 | step(0) = 0 | step(1) = 1
            way(0, 0) = NONE | way(9, 0) = NONE | way(1, 41) = NONE | way(1, -31) = NONE
            step(0) = 0 | step(1) = 1 | step(2) = NONE
            """);
    }

    private static void firstStep() {
        Sentence.holds("the first one where THE FLOCK is or beside it", """
            alp(5) | sheep(0) | act(0, 0, 1, 0) | day(0, 0) | move(0..2)
            height(1, 10, 10, 0) | way(1, 0) = 0 | step(0) = 1 | height(1, 0, 1, 0)
            height(2, 10, 10, 0) | way(1, 0) = 0 | step(0) = 2 | height(2, 0, 1, 0)
            height(3, 10, 10, 0) | way(1, 0) = 0 | step(0) = 3 | height(3, 0, 1, 0)
            height(0, 10, 10, 0) | way(1, 0) = 10 | step(0) = 1 | height(0, 0, 1, 0)
            height(4, 10, 10, 0) | way(1, 0) = 10 | step(0) = 1
            """);
        Sentence.holds("the first one from the highest HEIGHT and from HEIGHT 0", """
            alp(6) | sheep(0) | act(0, 0, 1, 0) | day(0, 0)
            move(0) | height(1, 10, 10, 0) | way(1, 0) = 0 | step(0) = 1
            move(1..5) | height(1, 0, 1, 0) | way(1, 0) = 10 | step(0) = 4
            height(5, 10, 10, 0) | way(1, 0) = 0 | step(0) = 5
            height(5, 0, 1, 0) | height(4, 10, 10, 0) | way(1, 0) = 0 | step(0) = 4
            """);
        Sentence.holds("(From DOWN the first one is HEIGHT 0; SNOW is not asked.)", """
            alp(3) | height(1, 100, 100, 0) | sheep(0) | act(0, 0, 1, 0) | day(0, 0)
            way(1, 0) = 10 | step(0) = 0
            way(2, 0) = 10 | step(0) = 0 | step(1) = 1
            day(0, 300) | count(9) = 0
            way(1, 0) = 10 | step(0) = 0
            way(2, 0) = 10 | step(0) = 0 | step(1) = 1
            """);
    }

    private static void furtherSteps() {
        Sentence.holds("each further one the same as or beside the one before", """
            alp(5) | sheep(0) | act(0, 0, 1, 0) | day(0, 0) | move(0..2)
            height(4, 100, 100, 0)
            way(2, 0) = 10 | step(0) = 3 | step(1) = 4
            way(3, 0) = 10 | step(0) = 3 | step(1) = 4 | step(2) = 4
            height(4, 0, 1, 0) | height(0, 100, 100, 0)
            way(2, 0) = 10 | step(0) = 1 | step(1) = 0
            way(3, 0) = 10 | step(0) = 1 | step(1) = 0 | step(2) = 0
            """);
        Sentence.holds("a WAY of 8 DAYS over all 6 HEIGHTS", """
            alp(6) | height(5, 60000, 60000, 0) | 80 x sheep(0) | act(0, 0..79, 1, 0) | day(0, 0)
            way(8, 0) = 4000
            step(0) = 0 | step(1) = 1 | step(2) = 2 | step(3) = 3 | step(4) = 4 | step(5..7) = 5 | step(8) = NONE
            """);
    }

    private static void daysOfAWay() {
        Sentence.holds("that DAY goes by there: GRASS grows, then it is eaten", """
            alp(2) | height(0, 0, 100, 0) | height(1, 0, 100, 10) | sheep(0) | act(0, 0, 1, 0) | day(0, 0) | move(0)
            way(1, 3) = 10 | step(0) = 0
            way(1, 4) = 0 | step(0) = 1
            way(2, 4) = 0 | step(0..1) = 1
            """);
        Sentence.holds("GRASS grows everywhere on each DAY of a WAY, MOST at most", """
            alp(2) | height(0, 30, 30, 0) | height(1, 0, 25, 10) | sheep(0..2) | act(0, 0..2, 1, 0) | day(0, 0) | move(0)
            way(2, 4) = 10 | step(0) = 0 | step(1) = 1
            way(2, 5) = 5 | step(0) = 0 | step(1) = 1
            way(2, 40) = 5 | step(0) = 1 | step(1) = 0
            """);
        Sentence.holds("or as much as it had, if that is more, on a WAY, too", """
            height(0, 15, 10, 1) | sheep(0..1) | act(0, 0..1, 1, 0) | day(0, 0) | move(0)
            way(1, 40) = 5 | way(2, 40) = 15 | way(1, -30) = 5 | way(2, -30) = 25
            """);
        Sentence.holds("what lacks on a DAY of a WAY is HUNGER", """
            height(0, 10, 100, 0) | sheep(0) | act(0, 0, 1, 0) | day(0, 0) | move(0)
            way(1, 0) = 0 | height(0, 9, 100, 0) | way(1, 0) = 1 | height(0, 11, 100, 0) | way(1, 0) = 0
            way(2, 0) = 9
            """);
        Sentence.holds("a WAY ahead changes nothing", """
            alp(2) | height(0, 15, 90, 7) | height(1, 5, 90, 9) | sheep(0..1) | act(0, 0..1, 1, 0) | day(0, 7) | move(0)
            way(8, 40) | way(8, -30)
            count(0) = 1 | count(1) = 1 | count(3) = 0 | count(4) = 7 | count(5) = 0 | count(13) = 0
            grass(0, 0) = 15 | grass(1, 0) = 5
            """);
    }

    private static void bestOne() {
        Sentence.holds("of least HUNGER in all", """
            alp(2) | height(0, 9, 100, 0) | height(1, 10, 100, 0) | sheep(0) | act(0, 0, 1, 0) | day(0, 0) | move(0)
            way(1, 0) = 0 | step(0) = 1
            height(0, 10, 100, 0) | way(1, 0) = 0 | step(0) = 0
            height(0, 9, 100, 0) | height(1, 9, 100, 0) | way(1, 0) = 1 | step(0) = 0
            """);
        Sentence.holds("of least HUNGER in all, not of each DAY", """
            alp(3) | height(0, 10, 100, 0) | height(2, 100, 100, 0) | sheep(0) | act(0, 0, 1, 0) | day(0, 0) | move(0)
            way(2, 0) = 10 | step(0..1) = 0
            way(3, 0) = 10 | step(0) = 0 | step(1) = 1 | step(2) = 2
            way(4, 0) = 10 | step(0) = 0 | step(1) = 1 | step(2..3) = 2
            """);
        Sentence.holds("of like ones of most GRASS in all at its end", """
            alp(2) | height(0, 100, 100, 0) | height(1, 100, 100, 10) | sheep(0) | act(0, 0, 1, 0) | day(0, 0) | move(0)
            way(1, 4) = 0 | step(0) = 0
            way(2, 4) = 0 | step(0) = 1 | step(1) = 0
            way(3, 4) = 0 | step(0) = 1 | step(1) = 1 | step(2) = 0
            way(3, 3) = 0 | step(0..2) = 0
            """);
        Sentence.holds("GRASS in all, that of HEIGHTS where THE FLOCK never is, too", """
            alp(3) | height(0, 50, 50, 0) | height(1, 50, 50, 1) | height(2, 7, 60000, 100)
            sheep(0) | act(0, 0, 1, 0) | day(0, 0) | move(0)
            way(2, 40) = 0 | step(0) = 1 | step(1) = 0
            """);
        Sentence.holds("of most GRASS in all at its end, on the two highest of 6 HEIGHTS", """
            alp(6) | height(4, 100, 100, 0) | height(5, 100, 100, 10) | sheep(0) | act(0, 0, 1, 0) | day(0, 0) | move(0..4)
            way(1, 16) = 0 | step(0) = 4
            way(2, 16) = 0 | step(0) = 5 | step(1) = 4
            way(2, 15) = 0 | step(0..1) = 4
            """);
        Sentence.holds("of like ones the least, HEIGHT by HEIGHT", """
            alp(4) | day(0, 0) | move(0..3)
            way(1, 0) = 0 | step(0) = 2
            way(2, 0) = 0 | step(0) = 2 | step(1) = 1
            way(8, 0) = 0 | step(0) = 2 | step(1) = 1 | step(2..7) = 0
            """);
        Sentence.holds("the least, HEIGHT by HEIGHT: the first DAY counts ahead of the others", """
            alp(2) | height(0, 10, 10, 0) | height(1, 10, 10, 0) | sheep(0) | act(0, 0, 1, 0) | day(0, 0) | move(0) | move(1)
            way(2, 0) = 0 | step(0) = 0 | step(1) = 1
            """);
    }

    private static void sheepOfAWay() {
        Sentence.holds("(As many SHEEP as are UP on the last DAY that has gone by.)", """
            sheep(0..2) | act(0, 0, 1, 0) | act(0, 1, 2, 0)
            way(1, 0) = 0
            day(0, 0) = 1 | way(1, 0) = 10 | way(8, 0) = 80
            day(0, 0) = 2 | way(1, 0) = 20
            act(1, 0, 3, 0) | way(1, 0) = 20
            act(0, 2, 2, 0) | way(1, 0) = 30
            day(0, 0) = 3 | way(1, 0) = 20
            milking(1) | close(0) | way(1, 0) = 0
            """);
    }

    private static void step() {
        Sentence.holds("The HEIGHT of DAY i (0 to n - 1) of the latest way(); NONE if there is none", """
            step(0) = NONE | step(-1) = NONE | step(MIN) = NONE | step(MAX) = NONE
            way(3, 0) = 0 | step(0..2) = 0 | step(3) = NONE | step(-1) = NONE | step(MIN) = NONE | step(MAX) = NONE
            way(1, 0) = 0 | step(0) = 0 | step(1) = NONE | step(2) = NONE
            way(8, 0) = 0 | step(0..7) = 0 | step(8) = NONE
            """);
        Sentence.holds("step is of the latest way(), whatever went on behind it", """
            alp(2) | height(1, 100, 100, 0) | sheep(0) | act(0, 0, 1, 0) | day(0, 0)
            way(2, 0) = 10 | height(0, 100, 100, 0) | move(0) | day(0, 0) | move(NONE) | milking(1) | close(0)
            step(0) = 0 | step(1) = 1 | step(2) = NONE
            """);
    }
}
