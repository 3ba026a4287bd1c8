/** The sentences of the document on told() and count(), each at its edges: promises 20, 23. */
public final class ToldEdgesTest {
    public static void main(String[] args) {
        toldSheep();
        toldOthers();
        countOfTheYear();
        countOfSheep();
        countOfAllYears();
        countOthers();
        Due.end();
    }

    private static void toldSheep() {
        Sentence.holds("0 SHEEP (not DEAD) at THE END as known now", """
            3 x sheep(0) | told(0, 0) = 3
            act(3, 0, 1, 1) | act(0, 1, 1, 0) | act(2, 1, 2, 0) | act(3, 2, 3, 1) | told(0, 0) = 3 | told(1, 0) = 0
            day(0, 0) | told(0, 0) = 2 | told(1, 0) = 1
            day(0, 0) | told(0, 0) = 1 | told(1, 0) = 1
            day(0, 0) | told(0, 0) = 0 | told(1, 0) = 2
            act(3, 0, 3, 11) | told(1, 0) = 1 | told(11, 0) = 1
            act(3, 0, 4, 10) | told(11, 0) = 1 | told(10, 0) = 0
            """);
        Sentence.holds("SHEEP that are not UP or have STRAYED count, too", """
            3 x sheep(4) | act(0, 0..1, 1, 0) | act(1, 0, 1, 0) | day(0, 0) | told(4, 0) = 3
            """);
        Sentence.holds("an OWNER with all 80", """
            80 x sheep(7) | told(7, 0) = 80 | told(6, 0) = 0 | told(8, 0) = 0
            """);
    }

    private static void toldOthers() {
        Sentence.holds("1 CHEESES of all CLOSED YEARS, 2 those of the latest one", """
            sheep(0) | act(0, 0, 1, 0) | milking(1) | milk(0, 1) | day(0, 0) | told(0, 1) = 0 | told(0, 2) = 0
            close(1000) | told(0, 1) = 1000 | told(0, 2) = 1000
            act(0, 0, 1, 0) | milking(1) | milk(0, 1) | day(0, 0) | told(0, 1) = 1000 | told(0, 2) = 1000
            close(3) | told(0, 1) = 1003 | told(0, 2) = 3
            act(0, 0, 1, 0) | milking(1) | milk(0, 1) | day(0, 0)
            close(0) | told(0, 1) = 1003 | told(0, 2) = 0
            """);
        Sentence.holds("3 BALANCE can be -1", """
            work(5, 1) | told(5, 3) = -1 | told(4, 3) = 0
            """);
        Sentence.holds("4 money (PURSE: paid to it less paid in) can be -1", """
            rules 'v1' = 0
            sheep(0..1) | act(0, 0..1, 1, 0) | act(1, 1, 2, 0) | milking(1) | milk(0, 9) | 2 x day(0, 0) | close(0)
            told(0, 4) = -1 | told(1, 4) = 1
            act(0, 0..1, 1, 0) | act(1, 0, 2, 0) | milking(1) | milk(1, 9) | 2 x day(0, 0) | close(0)
            told(0, 4) = 0 | told(1, 4) = 0
            """);
        Sentence.holds("5 its place in THE TURN (from 0 on)", """
            sheep(5) | sheep(6) | act(0, 0..1, 1, 0) | milking(1) | milk(0..1, 1) | day(0, 0) | close(1)
            told(0, 5) = 0 | told(4, 5) = 4 | told(5, 5) = 11 | told(6, 5) = 5 | told(11, 5) = 10
            """);
        Sentence.holds("told: NONE for others", """
            told(-1, 0..5) = NONE | told(12, 0..5) = NONE | told(MIN, 0) = NONE | told(MAX, 0) = NONE
            told(0, -1) = NONE | told(0, 6) = NONE | told(11, 6) = NONE | told(0, MIN) = NONE | told(0, MAX) = NONE
            told(0, 0) = 0 | told(11, 0) = 0 | told(11, 5) = 11
            """);
    }

    private static void countOfTheYear() {
        Sentence.holds("0 YEAR, 1 DAY", """
            count(0) = 1 | count(1) = 0 | day(0, 0) | count(1) = 1 | milking(1) | close(0)
            count(0) = 2 | count(1) = 0 | 2 x day(0, 0) | count(1) = 2 | milking(1) | close(0)
            count(0) = 3 | count(1) = 0
            """);
        Sentence.holds("2 HEIGHTS, 3 the HEIGHT of THE FLOCK (NONE: DOWN)", """
            count(2) = 1 | count(3) = NONE
            alp(6) | count(2) = 6 | count(3) = NONE
            move(0) | count(3) = 0 | move(1..5) | count(3) = 5 | move(4) | count(3) = 4
            """);
        Sentence.holds("4 SNOW, 9 whether THE PASS is OPEN", """
            count(4) = 0 | count(9) = 1
            day(0, 20) | count(4) = 20 | count(9) = 1
            day(0, 1) | count(4) = 21 | count(9) = 0
            day(1, 3) | count(4) = 20 | count(9) = 1
            """);
        Sentence.holds("5 HUNGER of the YEAR", """
            sheep(0) | act(0, 0, 1, 0) | move(0)
            day(0, 0) | count(5) = 10 | day(0, 0) | count(5) = 20
            move(NONE) | day(0, 0) | count(5) = 20 | milking(1) | close(0) | count(5) = 0
            act(0, 0, 1, 0) | move(0) | day(0, 0) | count(5) = 10
            """);
        Sentence.holds("8 ENTRIES, 10 the DAY of THE MILKING (NONE)", """
            sheep(0) | count(8) = 0 | count(10) = NONE
            act(0, 0, 9, 0) | count(8) = 1 | act(0, 0, 9, 0) = NONE | count(8) = 1
            milking(150) | count(10) = 150
            """);
    }

    private static void countOfSheep() {
        Sentence.holds("6 SHEEP (DEAD ones, too)", """
            count(6) = 0 | sheep(0..1) | count(6) = 2
            act(0, 0, 1, 0) | act(2, 0, 1, 0) | day(0, 0) | count(6) = 2
            milking(1) | close(0) | count(6) = 2 | sheep(0) = 2 | count(6) = 3
            """);
        Sentence.holds("7 UP on the last DAY that has gone by", """
            sheep(0..2) | act(0, 0, 1, 0) | act(0, 1, 2, 0) | act(1, 0, 3, 0) | count(7) = 0
            day(0, 0) | count(7) = 1 | day(0, 0) | count(7) = 2 | day(0, 0) | count(7) = 1
            act(0, 2, 3, 0) | count(7) = 2 | act(2, 1, 3, 0) | count(7) = 1 | act(3, 2, 3, 9) | count(7) = 1
            act(2, 2, 4, 0) | count(7) = 1 | act(0, 0, 3, 0) | count(7) = 2
            """);
        Sentence.holds("7 UP: all 80", """
            80 x sheep(0) | act(0, 0..79, 1, 0) | count(7) = 0 | day(0, 0) | count(7) = 80
            """);
    }

    private static void countOfAllYears() {
        Sentence.holds("11 PURSE's own that it paid in all YEARS", """
            sheep(0) | act(0, 0, 1, 0) | act(1, 0, 2, 0) | milking(1) | 2 x day(0, 0) | count(11) = 0
            close(0) | count(11) = 90
            act(0, 0, 1, 0) | act(2, 0, 2, 0) | milking(1) | 2 x day(0, 0) | close(0) | count(11) = 180
            """);
        Sentence.holds("12 bytes of the tape", """
            count(12) = 0 | feed(0, 0, 0, 0, 0) | count(12) = 20 | feed(0, 0, 0, 0, 0) | count(12) = 40
            rules(1) = 100 | count(12) = 0
            """);
        Sentence.holds("13 GRASS eaten in all YEARS", """
            height(0, 25, 100, 0) | sheep(0) | act(0, 0, 1, 0) | move(0) | day(0, 0) | count(13) = 10
            move(NONE) | milking(1) | close(0) | count(13) = 10
            act(0, 0, 1, 0) | move(0) | day(0, 0) | count(13) = 20 | day(0, 0) | count(13) = 25 | day(0, 0) | count(13) = 25
            """);
    }

    private static void countOthers() {
        Sentence.holds("count: NONE for others", """
            count(-1) = NONE | count(14) = NONE | count(MIN) = NONE | count(MAX) = NONE
            """);
    }
}
