/** The sentences of the document on a DAY that goes by and on moves, each at its edges: promises 7, 8. */
public final class DayEdgesTest {
    public static void main(String[] args) {
        numbers();
        snow();
        growth();
        eating();
        passMoves();
        heightMoves();
        Due.end();
    }

    private static void numbers() {
        Sentence.holds("A DAY goes by: its number; NONE: it would be the 151st", """
            day(0, 0) = 1 | count(1) = 1
            147 x day(0, 0)
            day(0, 0) = 149 | day(0, 0) = 150 | count(1) = 150
            day(0, 0) = NONE | day(40, 0) = NONE | day(-30, 300) = NONE | count(1) = 150 | count(4) = 0
            """);
        Sentence.holds("DAYS are numbered from 1 in each YEAR (YEARS from 1), 150 at most", """
            149 x day(0, 0) | day(0, 0) = 150 | milking(150) | close(0) = 0
            count(0) = 2 | count(1) = 0
            day(0, 0) = 1
            148 x day(0, 0)
            day(0, 0) = 150 | day(0, 0) = NONE
            """);
        Sentence.holds("a WARMTH (-30 to 40)", """
            day(-31, 0) = NONE | day(41, 0) = NONE | day(MIN, 0) = NONE | day(MAX, 0) = NONE | count(1) = 0
            day(-30, 0) = 1 | day(40, 0) = 2
            """);
        Sentence.holds("a FALL (0 to 300)", """
            day(0, -1) = NONE | day(0, 301) = NONE | day(0, MIN) = NONE | day(0, MAX) = NONE
            count(1) = 0 | count(4) = 0
            day(0, 0) = 1 | count(4) = 0 | day(0, 300) = 2 | count(4) = 300
            """);
        Sentence.holds("a refused DAY neither grows nor eats", """
            height(0, 50, 100, 1) | sheep(0) | act(0, 0, 1, 0) | move(0)
            day(41, 0) = NONE | day(-31, 0) = NONE | day(10, 301) = NONE | day(10, -1) = NONE
            grass(0, 0) = 50 | count(13) = 0 | count(5) = 0 | count(1) = 0 | count(4) = 0
            """);
    }

    private static void snow() {
        Sentence.holds("SNOW is FALL more, then 4 times WARMTH less", """
            day(0, 7) | count(4) = 7
            day(1, 4) | count(4) = 7
            day(5, 20) | count(4) = 7
            day(1, 0) | count(4) = 3
            """);
        Sentence.holds("4 times WARMTH less (if that is above 0)", """
            day(0, 100) | count(4) = 100
            day(0, 0) | count(4) = 100
            day(-1, 0) | count(4) = 100
            day(-30, 0) | count(4) = 100
            day(1, 0) | count(4) = 96
            """);
        Sentence.holds("SNOW is not below 0", """
            day(1, 4) | count(4) = 0
            day(1, 3) | count(4) = 0
            day(1, 5) | count(4) = 1
            day(1, 0) | count(4) = 0
            day(40, 160) | count(4) = 0
            day(40, 161) | count(4) = 1
            day(40, 0) | count(4) = 0
            day(40, 0) | count(4) = 0
            day(0, 1) | count(4) = 1
            """);
        Sentence.holds("SNOW has no most", """
            150 x day(-30, 300) | count(4) = 45000
            milking(1) | close(0) | count(4) = 45000
            day(40, 300) | count(4) = 45140
            """);
    }

    private static void growth() {
        Sentence.holds("GROWTH times (WARMTH - 3 h) more GRASS (if that is above 0)", """
            alp(6) | height(0..5, 1000, 60000, 10)
            day(-30, 0) | grass(0..5, 0) = 1000
            day(0, 0) | grass(0..5, 0) = 1000
            day(1, 0) | grass(0, 0) = 1010 | grass(1..5, 0) = 1000
            day(3, 0) | grass(0, 0) = 1040 | grass(1..5, 0) = 1000
            day(4, 0) | grass(0, 0) = 1080 | grass(1, 0) = 1010 | grass(2..5, 0) = 1000
            day(15, 0) | grass(0, 0) = 1230 | grass(1, 0) = 1130 | grass(2, 0) = 1090 | grass(3, 0) = 1060
            grass(4, 0) = 1030 | grass(5, 0) = 1000
            day(16, 0) | grass(5, 0) = 1010 | grass(4, 0) = 1070
            """);
        Sentence.holds("GROWTH 0 and 100", """
            alp(2) | height(0, 5, 60000, 0) | height(1, 5, 60000, 100)
            day(40, 0) | grass(0, 0) = 5 | grass(1, 0) = 3705
            """);
        Sentence.holds("but MOST at most", """
            alp(3) | height(0, 80, 100, 2) | height(1, 80, 100, 3) | height(2, 80, 100, 5)
            day(10, 0)
            grass(0, 0) = 100 | grass(1, 0) = 100 | grass(2, 0) = 100
            height(0, 79, 100, 2) | height(1, 78, 100, 3) | height(2, 79, 100, 5)
            day(10, 0)
            grass(0, 0) = 99 | grass(1, 0) = 99 | grass(2, 0) = 99
            day(40, 0) | grass(0..2, 0) = 100
            height(0, 0, 1, 100) | day(40, 0) | grass(0, 0) = 1
            height(0, 59999, 60000, 1) | day(1, 0) | grass(0, 0) = 60000 | day(1, 0) | grass(0, 0) = 60000
            """);
        Sentence.holds("(or as much as it had, if that is more)", """
            alp(3) | height(0, 101, 100, 2) | height(1, 60000, 1, 100) | height(2, 100, 100, 100)
            day(40, 0) | grass(0, 0) = 101 | grass(1, 0) = 60000 | grass(2, 0) = 100
            day(-30, 0) | grass(0, 0) = 101 | grass(1, 0) = 60000 | grass(2, 0) = 100
            """);
        Sentence.holds("(2) ahead of (3): GRASS grows, then it is eaten", """
            height(0, 0, 15, 1) | sheep(0) | act(0, 0, 1, 0) | move(0)
            day(10, 0) | grass(0, 0) = 0 | count(13) = 10 | count(5) = 0
            day(20, 0) | grass(0, 0) = 5 | count(13) = 20 | count(5) = 0
            """);
    }

    private static void eating() {
        Sentence.holds("as far as there is; what lacks is HUNGER", """
            height(0, 10, 100, 0) | sheep(0) | act(0, 0, 1, 0) | move(0)
            day(0, 0) | grass(0, 0) = 0 | count(13) = 10 | count(5) = 0
            day(0, 0) | grass(0, 0) = 0 | count(13) = 10 | count(5) = 10
            height(0, 9, 100, 0)
            day(0, 0) | grass(0, 0) = 0 | count(13) = 19 | count(5) = 11
            height(0, 11, 100, 0)
            day(0, 0) | grass(0, 0) = 1 | count(13) = 29 | count(5) = 11
            """);
        Sentence.holds("eats 10 for each SHEEP: none and 80", """
            height(0, 1000, 1000, 0) | move(0)
            day(0, 0) | grass(0, 0) = 1000 | count(13) = 0
            80 x sheep(0) | act(0, 0..79, 2, 0)
            day(0, 0) | grass(0, 0) = 200 | count(13) = 800 | count(5) = 0
            day(0, 0) | grass(0, 0) = 0 | count(13) = 1000 | count(5) = 600
            """);
        Sentence.holds("THE FLOCK, at a HEIGHT, eats: not DOWN, nor elsewhere", """
            alp(3) | height(0..2, 50, 100, 0) | sheep(0) | act(0, 0, 1, 0)
            day(0, 0) | grass(0..2, 0) = 50 | count(13) = 0 | count(5) = 0
            move(0) | move(1) | move(2)
            day(0, 0) | grass(0..1, 0) = 50 | grass(2, 0) = 40 | count(13) = 10
            """);
        Sentence.holds("each SHEEP that is UP on this DAY", """
            height(0, 1000, 1000, 0) | sheep(0..4) | move(0)
            act(0, 0, 1, 0) | act(0, 1, 2, 0) | act(0, 2, 1, 0) | act(1, 2, 2, 0) | act(0, 3, 1, 0) | act(2, 3, 3, 0)
            day(0, 0) | count(13) = 30 | count(7) = 3
            day(0, 0) | count(13) = 60 | count(7) = 3
            day(0, 0) | count(13) = 80 | count(7) = 2
            """);
        Sentence.holds("(as known now)", """
            height(0, 1000, 1000, 0) | sheep(0..1) | move(0)
            act(0, 0, 1, 0) | day(0, 0) | count(13) = 10
            act(0, 1, 1, 0) | count(13) = 10 | grass(0, 0) = 990
            day(0, 0) | count(13) = 30
            act(1, 0, 1, 0) | count(13) = 30 | grass(0, 0) = 970
            day(0, 0) | count(13) = 40
            """);
        Sentence.holds("SNOW on THE PASS does not keep THE FLOCK from eating", """
            height(0, 1000, 1000, 0) | sheep(0) | act(0, 0, 1, 0) | move(0)
            day(0, 300) | count(13) = 10 | count(9) = 0
            """);
    }

    private static void passMoves() {
        Sentence.holds("from DOWN to HEIGHT 0, if SNOW is not above 20", """
            day(0, 20) | count(9) = 1 | move(0) = true | count(3) = 0 | move(NONE) = true
            day(0, 1) | count(4) = 21 | count(9) = 0 | move(0) = false | count(3) = NONE
            day(1, 3) | count(4) = 20 | count(9) = 1 | move(0) = true | count(3) = 0
            """);
        Sentence.holds("or back, if SNOW is not above 20", """
            move(0) | day(0, 21) | move(NONE) = false | count(3) = 0
            day(1, 3) | count(4) = 20 | move(NONE) = true | count(3) = NONE
            """);
        Sentence.holds("from DOWN to no other one than HEIGHT 0", """
            alp(6)
            move(NONE) = false | move(1..5) = false | move(6) = false | move(-2) = false
            move(MIN) = false | move(MAX) = false | count(3) = NONE
            move(0) = true
            """);
        Sentence.holds("back from no other one than HEIGHT 0", """
            alp(3) | move(0) | move(1)
            move(NONE) = false | count(3) = 1
            move(2) | move(NONE) = false | count(3) = 2
            move(1) | move(0) | move(NONE) = true | count(3) = NONE
            """);
    }

    private static void heightMoves() {
        Sentence.holds("from a HEIGHT to one beside it", """
            alp(4) | move(0)
            move(0) = false | move(2) = false | move(3) = false | count(3) = 0
            move(1) = true | count(3) = 1
            move(1) = false | move(3) = false | count(3) = 1
            move(2) = true | move(2) = false | move(0) = false | count(3) = 2
            move(3) = true | count(3) = 3
            move(3) = false | move(1) = false | move(0) = false | count(3) = 3
            move(2) = true | move(1) = true | move(0) = true | count(3) = 0
            """);
        Sentence.holds("to no HEIGHT that THE ALP has not", """
            move(0) | move(1) = false | move(-2) = false | move(MIN) = false | move(MAX) = false | count(3) = 0
            move(NONE) | alp(6) | move(0..5) | count(3) = 5
            move(6) = false | move(MIN) = false | move(MAX) = false | move(NONE) = false | count(3) = 5
            """);
        Sentence.holds("from a HEIGHT to one beside it, whatever SNOW there is", """
            alp(2) | move(0) | day(-30, 300)
            move(1) = true | move(0) = true | move(NONE) = false
            """);
    }
}
