/** The sentences of the document on a new object and on HEIGHTS, each at its edges: promises 1, 4, 5, 19. */
public final class AlpEdgesTest {
    public static void main(String[] args) {
        newObject();
        alp();
        height();
        grass();
        Due.end();
    }

    private static void newObject() {
        Sentence.holds("One HEIGHT without GRASS, MOST 1, GROWTH 0", """
            count(2) = 1 | grass(0, 0) = 0 | grass(0, 1) = 1 | grass(0, 2) = 0 | grass(1, 0..2) = NONE
            """);
        Sentence.holds("no SHEEP", """
            count(6) = 0 | count(7) = 0 | count(8) = 0 | told(0..11, 0) = 0
            look(0, 0, 0, 0..1) = NONE | credit(0, 0) = NONE | part(0, 0..11) = 0 | entry(0, 0..3) = NONE
            """);
        Sentence.holds("YEAR 1, DAY 0", """
            count(0) = 1 | count(1) = 0
            """);
        Sentence.holds("THE PASS has SNOW (0 at first), THE FLOCK is DOWN (at first)", """
            count(3) = NONE | count(4) = 0 | count(9) = 1
            """);
        Sentence.holds("nothing was eaten, told, paid or fed yet", """
            count(5) = 0 | count(10) = NONE | count(11) = 0 | count(12) = 0 | count(13) = 0
            told(0..11, 1..4) = 0 | step(0) = NONE
            """);
        Sentence.holds("THE TURN (a row of all OWNERS, 0 to 11 at first)", """
            told(0, 5) = 0 | told(1, 5) = 1 | told(2, 5) = 2 | told(3, 5) = 3 | told(4, 5) = 4 | told(5, 5) = 5
            told(6, 5) = 6 | told(7, 5) = 7 | told(8, 5) = 8 | told(9, 5) = 9 | told(10, 5) = 10 | told(11, 5) = 11
            """);
    }

    private static void alp() {
        Sentence.holds("THE ALP has n HEIGHTS (n 1 to 6)", """
            alp(0) = false | count(2) = 1
            alp(6) = true | count(2) = 6
            alp(7) = false | alp(-1) = false | alp(MIN) = false | alp(MAX) = false | count(2) = 6
            alp(1) = true | count(2) = 1
            alp(0) = false | count(2) = 1
            alp(2) = true | count(2) = 2 | alp(5) = true | count(2) = 5
            """);
        Sentence.holds("HEIGHTS as at first", """
            alp(6)
            height(0..5, 60000, 60000, 100)
            alp(6) = true | grass(0..5, 0) = 0 | grass(0..5, 1) = 1 | grass(0..5, 2) = 0
            height(0..5, 7, 8, 9)
            alp(2) = true | grass(0..1, 0) = 0 | grass(0..1, 1) = 1 | grass(0..1, 2) = 0 | grass(2, 0..2) = NONE
            alp(6) = true | grass(0..5, 0) = 0 | grass(0..5, 1) = 1 | grass(0..5, 2) = 0
            """);
        Sentence.holds("alp: DAY 0", """
            alp(2) | height(1, 7, 8, 9)
            day(0, 0) = 1
            alp(2) = false | alp(3) = false | grass(1, 0) = 7
            """);
        Sentence.holds("alp: YEAR 1", """
            alp(2) | height(1, 7, 8, 9) | day(-30, 0) | milking(1) | close(0) = 0
            count(0) = 2 | count(1) = 0
            alp(2) = false | alp(3) = false | grass(1, 0) = 7
            """);
        Sentence.holds("alp: THE FLOCK DOWN", """
            alp(2) | height(1, 7, 8, 9)
            move(0) | alp(2) = false
            move(1) | alp(2) = false | grass(1, 0) = 7
            move(0) | move(NONE)
            alp(2) = true | grass(1, 0) = 0
            """);
        Sentence.holds("alp: no ENTRIES yet", """
            sheep(0) | act(1, 0, 1, 0) = NONE
            alp(2) = true
            act(0, 0, 150, 0) = 0
            alp(2) = false | alp(3) = false | count(2) = 2
            """);
        Sentence.holds("alp asks for nothing else", """
            sheep(3) | milking(5) | milk(0, 9) | work(3, 4) | way(1, 0)
            feed 'l7' | height(0, 1, 2, 3)
            alp(4) = true
            count(6) = 1 | count(10) = 5 | told(3, 3) = -4 | told(3, 0) = 1 | count(12) = 20 | step(0) = 0
            """);
    }

    private static void height() {
        Sentence.holds("HEIGHTS, 0 to H - 1", """
            height(0, 1, 2, 3) = true | height(1, 1, 2, 3) = false | height(-1, 1, 2, 3) = false
            alp(6)
            height(5, 1, 2, 3) = true | height(6, 1, 2, 3) = false | height(-1, 1, 2, 3) = false
            height(MIN, 1, 2, 3) = false | height(MAX, 1, 2, 3) = false
            alp(3)
            height(2, 1, 2, 3) = true | height(3, 1, 2, 3) = false
            """);
        Sentence.holds("GRASS (0 to 60000)", """
            height(0, 5, 6, 7)
            height(0, -1, 6, 7) = false | height(0, MIN, 6, 7) = false | grass(0, 0) = 5
            height(0, 60001, 6, 7) = false | height(0, MAX, 6, 7) = false | grass(0, 0) = 5
            height(0, 0, 6, 7) = true | grass(0, 0) = 0
            height(0, 60000, 6, 7) = true | grass(0, 0) = 60000
            """);
        Sentence.holds("MOST (1 to 60000)", """
            height(0, 5, 6, 7)
            height(0, 5, 0, 7) = false | height(0, 5, -1, 7) = false | height(0, 5, MIN, 7) = false | grass(0, 1) = 6
            height(0, 5, 60001, 7) = false | height(0, 5, MAX, 7) = false | grass(0, 1) = 6
            height(0, 5, 1, 7) = true | grass(0, 1) = 1
            height(0, 5, 60000, 7) = true | grass(0, 1) = 60000
            """);
        Sentence.holds("GROWTH (0 to 100)", """
            height(0, 5, 6, 7)
            height(0, 5, 6, -1) = false | height(0, 5, 6, MIN) = false | grass(0, 2) = 7
            height(0, 5, 6, 101) = false | height(0, 5, 6, MAX) = false | grass(0, 2) = 7
            height(0, 5, 6, 0) = true | grass(0, 2) = 0
            height(0, 5, 6, 100) = true | grass(0, 2) = 100
            """);
        Sentence.holds("GRASS may be more than MOST", """
            height(0, 2, 1, 0) = true | grass(0, 0) = 2 | grass(0, 1) = 1
            height(0, 60000, 1, 100) = true | grass(0, 0) = 60000 | grass(0, 1) = 1
            """);
        Sentence.holds("height is told of one HEIGHT, at any time", """
            alp(3) | height(1, 5, 6, 7) = true
            grass(0, 0) = 0 | grass(0, 1) = 1 | grass(0, 2) = 0
            grass(1, 0) = 5 | grass(1, 1) = 6 | grass(1, 2) = 7
            grass(2, 0) = 0 | grass(2, 1) = 1 | grass(2, 2) = 0
            sheep(0) | act(0, 0, 1, 0) | day(-30, 0) | move(0) | move(1)
            height(1, 8, 9, 10) = true | grass(1, 0) = 8 | grass(1, 1) = 9 | grass(1, 2) = 10
            move(0) | move(NONE) | milking(1) | close(0)
            height(1, 11, 12, 13) = true | grass(1, 0) = 11 | grass(1, 1) = 12 | grass(1, 2) = 13
            """);
    }

    private static void grass() {
        Sentence.holds("Of HEIGHT h, what 0 GRASS, 1 MOST, 2 GROWTH", """
            alp(6) | height(0, 10, 20, 30) | height(5, 11, 21, 31)
            grass(0, 0) = 10 | grass(0, 1) = 20 | grass(0, 2) = 30
            grass(5, 0) = 11 | grass(5, 1) = 21 | grass(5, 2) = 31
            """);
        Sentence.holds("grass: NONE for others", """
            grass(0, -1) = NONE | grass(0, 3) = NONE | grass(0, MIN) = NONE | grass(0, MAX) = NONE
            grass(-1, 0..2) = NONE | grass(1, 0..2) = NONE | grass(MIN, 0..2) = NONE | grass(MAX, 0..2) = NONE
            alp(6)
            grass(5, 1) = 1 | grass(6, 0..2) = NONE | grass(5, -1) = NONE | grass(5, 3) = NONE
            """);
    }
}
