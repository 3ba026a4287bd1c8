/** The sentences of the document on SHEEP and ENTRIES, each at its edges: promises 6, 9, 14, 21. */
public final class EntryEdgesTest {
    public static void main(String[] args) {
        sheep();
        actArguments();
        fitting();
        order();
        late();
        dead();
        look();
        entry();
        Due.end();
    }

    private static void sheep() {
        Sentence.holds("A SHEEP of an OWNER: its number; NONE: no such OWNER", """
            sheep(-1) = NONE | sheep(12) = NONE | sheep(MIN) = NONE | sheep(MAX) = NONE | count(6) = 0
            sheep(0) = 0 | sheep(11) = 1 | count(6) = 2
            look(0, 0, 0, 1) = 0 | look(0, 0, 1, 1) = 11 | told(0, 0) = 1 | told(11, 0) = 1
            """);
        Sentence.holds("sheep: NONE: 80 are there", """
            78 x sheep(1)
            sheep(2) = 78 | sheep(3) = 79 | count(6) = 80 | look(0, 0, 79, 1) = 3
            sheep(4) = NONE | count(6) = 80 | told(4, 0) = 0
            """);
        Sentence.holds("sheep: NONE: 80 are there, DEAD ones, too", """
            80 x sheep(1)
            act(0, 0..39, 1, 0) | act(2, 0..39, 1, 0) | milking(1) | day(0, 0) | close(0)
            sheep(1) = NONE | count(6) = 80 | told(1, 0) = 40
            """);
        Sentence.holds("sheep: NONE: the YEAR has ENTRIES", """
            sheep(0) = 0 | act(1, 0, 1, 0) = NONE | sheep(1) = 1
            act(0, 0, 150, 0) = 0
            sheep(2) = NONE | count(6) = 2
            milking(1) | day(0, 0) | close(0) | count(8) = 0
            sheep(2) = 2 | count(6) = 3
            """);
        Sentence.holds("sheep asks neither for DAY 0 nor for YEAR 1 nor where THE FLOCK is", """
            day(0, 0) | move(0) | milking(1) | sheep(4) = 0 | move(NONE) | close(0) | sheep(4) = 1 | count(6) = 2
            """);
    }

    private static void actArguments() {
        Sentence.holds("act: NONE: no such ACT", """
            sheep(0)
            act(-1, 0, 1, 1) = NONE | act(4, 0, 1, 1) = NONE | act(MIN, 0, 1, 1) = NONE | act(MAX, 0, 1, 1) = NONE
            count(8) = 0
            act(0, 0, 1, 1) = 0 | act(3, 0, 1, 1) = 1 | act(1, 0, 1, 1) = 2 | act(0, 0, 1, 1) = 3 | act(2, 0, 1, 1) = 4
            """);
        Sentence.holds("act: NONE: no such SHEEP", """
            act(0, 0, 1, 0) = NONE
            sheep(0..1)
            act(0, -1, 1, 0) = NONE | act(0, 2, 1, 0) = NONE | act(0, MIN, 1, 0) = NONE | act(0, MAX, 1, 0) = NONE
            count(8) = 0
            act(0, 0, 1, 0) = 0 | act(0, 1, 1, 0) = 1
            """);
        Sentence.holds("act of the 80th SHEEP, not of an 81st one", """
            80 x sheep(0)
            act(0, 80, 1, 0) = NONE | act(0, 79, 1, 0) = 0 | look(1, 1, 79, 0) = 1
            """);
        Sentence.holds("act: NONE: no such DAY (1 to 150, gone by or not)", """
            sheep(0..3)
            act(0, 0, 0, 0) = NONE | act(0, 0, -1, 0) = NONE | act(0, 0, MIN, 0) = NONE
            act(0, 0, 151, 0) = NONE | act(0, 0, MAX, 0) = NONE | count(8) = 0
            act(0, 0, 1, 0) = 0 | act(0, 1, 150, 0) = 1
            9 x day(0, 0)
            act(0, 2, 9, 0) = 2 | act(0, 3, 10, 0) = 3 | act(1, 0, 1, 0) = 4 | act(1, 1, 150, 0) = 5
            """);
        Sentence.holds("act: NONE: no such OWNER (of SELL)", """
            sheep(5)
            act(3, 0, 1, -1) = NONE | act(3, 0, 1, 12) = NONE | act(3, 0, 1, MIN) = NONE | act(3, 0, 1, MAX) = NONE
            count(8) = 0
            act(3, 0, 1, 0) = 0 | act(3, 0, 2, 11) = 1
            """);
        Sentence.holds("owner of SELL; else not looked at", """
            sheep(5)
            act(0, 0, 1, -1) = 0 | act(1, 0, 1, 12) = 1 | act(0, 0, 1, MIN) = 2 | act(2, 0, 1, MAX) = 3
            look(4, 1, 0, 1) = 5 | entry(0..3, 3) = NONE
            """);
        Sentence.holds("the ENTRY's number (from 0 on); NONE: 100 are there", """
            sheep(0..1)
            act(0, 0, 1, 0) = 0 | act(1, 0, 1, 0) = 1
            """ + "act(0, 0, 1, 0) | act(1, 0, 1, 0)\n".repeat(47) + """
            act(0, 0, 1, 0) = 96
            count(8) = 97
            act(0, 1, 1, 0) = 97 | act(1, 1, 1, 0) = 98 | count(8) = 99
            act(2, 1, 1, 0) = NONE | act(0, 0, 150, 0) = NONE | count(8) = 99
            act(0, 1, 1, 0) = 99 | count(8) = 100
            act(1, 1, 1, 0) = NONE | act(1, 0, 150, 0) = NONE | act(3, 0, 1, 5) = NONE | count(8) = 100
            entry(99, 0) = 0 | entry(100, 0) = NONE
            milking(1) | day(0, 0) | close(0)
            act(0, 0, 1, 0) = 0
            """);
    }

    private static void fitting() {
        Sentence.holds("COME: it is not UP (and not DEAD)", """
            sheep(0)
            act(0, 0, 10, 0) = 0
            act(0, 0, 10, 0) = NONE | act(0, 0, 11, 0) = NONE | act(0, 0, 150, 0) = NONE
            act(1, 0, 20, 0) = 1 | act(0, 0, 19, 0) = NONE | act(0, 0, 20, 0) = 2 | act(2, 0, 30, 0) = 3
            act(0, 0, 30, 0) = NONE | act(0, 0, 31, 0) = NONE | count(8) = 4
            """);
        Sentence.holds("STRAY: it is UP", """
            sheep(0)
            act(1, 0, 1, 0) = NONE
            act(0, 0, 10, 0) = 0
            act(1, 0, 9, 0) = NONE | act(1, 0, 10, 0) = 1
            act(1, 0, 10, 0) = NONE | act(1, 0, 11, 0) = NONE | count(8) = 2
            """);
        Sentence.holds("DIE: it is UP", """
            sheep(0)
            act(2, 0, 1, 0) = NONE
            act(0, 0, 10, 0) = 0
            act(2, 0, 9, 0) = NONE
            act(1, 0, 12, 0) = 1 | act(2, 0, 12, 0) = NONE | act(2, 0, 13, 0) = NONE
            act(0, 0, 14, 0) = 2 | act(2, 0, 14, 0) = 3
            act(2, 0, 14, 0) = NONE | act(2, 0, 15, 0) = NONE | count(8) = 4
            """);
        Sentence.holds("SELL: it is not DEAD", """
            sheep(0)
            act(3, 0, 1, 1) = 0 | act(0, 0, 10, 0) = 1 | act(3, 0, 11, 2) = 2 | act(1, 0, 12, 0) = 3
            act(3, 0, 13, 3) = 4 | act(0, 0, 14, 0) = 5 | act(2, 0, 20, 0) = 6
            act(3, 0, 20, 4) = NONE | act(3, 0, 21, 4) = NONE | act(3, 0, 150, 4) = NONE
            act(3, 0, 19, 4) = 7 | count(8) = 8
            """);
        Sentence.holds("SELL: the OWNER is another one", """
            sheep(3)
            act(3, 0, 10, 3) = NONE | act(3, 0, 10, 4) = 0
            act(3, 0, 10, 4) = NONE | act(3, 0, 11, 4) = NONE
            act(3, 0, 9, 3) = NONE | act(3, 0, 9, 4) = NONE
            act(3, 0, 10, 3) = 1 | act(3, 0, 11, 3) = NONE | act(3, 0, 11, 4) = 2 | count(8) = 3
            """);
    }

    private static void order() {
        Sentence.holds("COME (it is UP from this DAY on)", """
            sheep(0) | act(0, 0, 7, 0)
            look(1, 0, 0, 0) = 0 | look(1, 6, 0, 0) = 0 | look(1, 7, 0, 0) = 1
            look(1, 8, 0, 0) = 1 | look(1, 150, 0, 0) = 1
            """);
        Sentence.holds("STRAY (it is not, from this DAY on)", """
            sheep(0) | act(0, 0, 1, 0) | act(1, 0, 7, 0)
            look(2, 6, 0, 0) = 1 | look(2, 7, 0, 0) = 0 | look(2, 150, 0, 0) = 0
            """);
        Sentence.holds("DIE (likewise, and is DEAD)", """
            sheep(0) | act(0, 0, 1, 0) | act(2, 0, 7, 0)
            look(2, 6, 0, 0) = 1 | look(2, 7, 0, 0) = 2 | look(2, 150, 0, 0) = 2
            """);
        Sentence.holds("SELL (to another OWNER, from this DAY on)", """
            sheep(0) | act(3, 0, 7, 9)
            look(1, 0, 0, 1) = 0 | look(1, 6, 0, 1) = 0 | look(1, 7, 0, 1) = 9 | look(1, 150, 0, 1) = 9
            look(1, 7, 0, 0) = 0
            """);
        Sentence.holds("ACTS are done by DAYS", """
            sheep(0)
            act(0, 0, 30, 0) = 0 | act(1, 0, 40, 0) = 1 | act(3, 0, 10, 5) = 2 | act(3, 0, 5, 6) = 3
            look(4, 4, 0, 1) = 0 | look(4, 5, 0, 1) = 6 | look(4, 9, 0, 1) = 6 | look(4, 10, 0, 1) = 5
            look(4, 29, 0, 0) = 0 | look(4, 30, 0, 0) = 1 | look(4, 40, 0, 0) = 0
            act(0, 0, 35, 0) = NONE | act(0, 0, 45, 0) = 4 | act(1, 0, 44, 0) = NONE | look(5, 45, 0, 0) = 1
            """);
        Sentence.holds("of one DAY in the order of ENTRIES", """
            sheep(0)
            act(0, 0, 5, 0) = 0 | act(1, 0, 5, 0) = 1 | act(0, 0, 5, 0) = 2 | act(3, 0, 5, 7) = 3 | act(3, 0, 5, 8) = 4
            look(1, 5, 0, 0) = 1 | look(2, 5, 0, 0) = 0 | look(3, 5, 0, 0) = 1
            look(3, 5, 0, 1) = 0 | look(4, 5, 0, 1) = 7 | look(5, 5, 0, 1) = 8
            act(2, 0, 5, 0) = 5 | look(6, 5, 0, 0) = 2 | look(6, 4, 0, 0) = 0
            act(1, 0, 5, 0) = NONE | act(3, 0, 5, 0) = NONE
            """);
        Sentence.holds("of one DAY in the order of ENTRIES, with other DAYS told between", """
            sheep(0)
            act(0, 0, 5, 0) = 0 | act(1, 0, 9, 0) = 1 | act(3, 0, 5, 1) = 2 | act(3, 0, 2, 2) = 3 | act(3, 0, 5, 2) = 4
            look(5, 2, 0, 1) = 2 | look(5, 5, 0, 1) = 2 | look(4, 5, 0, 1) = 1 | look(3, 4, 0, 1) = 0
            """);
    }

    private static void late() {
        Sentence.holds("An ENTRY is taken only if with it all of that SHEEP FIT", """
            sheep(0) | sheep(0)
            act(0, 0, 50, 0) = 0 | act(2, 0, 60, 0) = 1
            act(0, 0, 49, 0) = NONE | act(1, 0, 59, 0) = NONE | act(2, 0, 59, 0) = NONE | act(1, 0, 60, 0) = NONE
            act(1, 0, 49, 0) = NONE
            act(3, 0, 70, 1) = NONE | act(3, 0, 59, 1) = 2 | act(3, 0, 58, 1) = NONE | act(3, 0, 58, 2) = 3
            act(0, 1, 55, 0) = 4
            count(8) = 5 | look(5, 150, 0, 0) = 2 | look(5, 58, 0, 1) = 2 | look(5, 59, 0, 1) = 1
            """);
        Sentence.holds("a SELL told late must leave the later ones to another OWNER", """
            sheep(0)
            act(3, 0, 20, 1) = 0 | act(3, 0, 30, 0) = 1
            act(3, 0, 25, 0) = NONE | act(3, 0, 15, 1) = NONE | act(3, 0, 19, 1) = NONE | act(3, 0, 20, 0) = NONE
            act(3, 0, 20, 2) = 2 | look(3, 20, 0, 1) = 2 | look(3, 30, 0, 1) = 0
            """);
        Sentence.holds("a refused ENTRY leaves those on later DAYS as they are", """
            sheep(0..1)
            act(0, 0, 10, 0) | act(0, 1, 20, 0) | act(1, 0, 30, 0) | act(1, 1, 40, 0)
            act(0, 0, 5, 0) = NONE | act(0, 0, 15, 0) = NONE | act(1, 1, 15, 0) = NONE | act(1, 0, 35, 0) = NONE
            look(4, 10, 0, 0) = 1 | look(4, 30, 0, 0) = 0 | look(4, 20, 1, 0) = 1 | look(4, 40, 1, 0) = 0
            act(0, 0, 35, 0) = 4 | look(5, 35, 0, 0) = 1 | look(4, 35, 0, 0) = 0
            """);
    }

    private static void dead() {
        Sentence.holds("DEAD ones are gone (their numbers, too, stay DEAD)", """
            sheep(4..5) | act(0, 0..1, 1, 0) | act(2, 0, 1, 0) | milking(1) | day(0, 0) | close(0)
            look(0, 0, 0, 0) = 2 | look(0, 1, 0, 0) = 2 | look(0, 150, 0, 0) = 2 | look(0, 0, 1, 0) = 0
            told(4, 0) = 0 | told(5, 0) = 1 | count(6) = 2 | count(7) = 0
            act(0, 0, 1, 0) = NONE | act(1, 0, 1, 0) = NONE | act(2, 0, 1, 0) = NONE | act(3, 0, 1, 7) = NONE
            act(0, 0, 150, 0) = NONE | act(3, 0, 150, 7) = NONE | count(8) = 0
            sheep(6) = 2
            act(0, 1, 1, 0) = 0 | look(1, 1, 0, 0) = 2 | count(8) = 1
            milking(1) | day(0, 0) | close(0)
            look(0, 0, 0, 0) = 2 | act(0, 0, 1, 0) = NONE
            """);
        Sentence.holds("a SHEEP that would DIE behind THE END is not DEAD", """
            sheep(4..5) | act(0, 0..1, 1, 0) | act(2, 0, 2, 0) | act(2, 1, 3, 0) | milking(1) | 2 x day(0, 0) | close(0)
            look(0, 0, 0, 0) = 2 | look(0, 0, 1, 0) = 0
            act(0, 0, 1, 0) = NONE | act(0, 1, 1, 0) = 0
            """);
    }

    private static void look() {
        Sentence.holds("by KNOWING k: 0 and the last one", """
            sheep(3)
            look(0, 0, 0, 0) = 0 | look(0, 150, 0, 1) = 3 | look(1, 0, 0, 0) = NONE | look(-1, 0, 0, 0) = NONE
            act(0, 0, 10, 0) | act(3, 0, 5, 4) | act(2, 0, 20, 0)
            look(0, 150, 0, 0) = 0 | look(1, 150, 0, 0) = 1 | look(2, 150, 0, 0) = 1 | look(3, 150, 0, 0) = 2
            look(0, 150, 0, 1) = 3 | look(1, 150, 0, 1) = 3 | look(2, 150, 0, 1) = 4 | look(3, 150, 0, 1) = 4
            look(4, 150, 0, 0) = NONE | look(-1, 150, 0, 0) = NONE
            look(MIN, 150, 0, 0) = NONE | look(MAX, 150, 0, 0) = NONE
            """);
        Sentence.holds("on a DAY (0: the beginning; to 150)", """
            sheep(3) | act(0, 0, 1, 0) | act(3, 0, 1, 4) | act(1, 0, 150, 0) | act(3, 0, 150, 5)
            look(4, 0, 0, 0) = 0 | look(4, 0, 0, 1) = 3
            look(4, 1, 0, 0) = 1 | look(4, 1, 0, 1) = 4
            look(4, 149, 0, 0) = 1 | look(4, 149, 0, 1) = 4
            look(4, 150, 0, 0) = 0 | look(4, 150, 0, 1) = 5
            look(4, -1, 0, 0..1) = NONE | look(4, 151, 0, 0..1) = NONE
            look(4, MIN, 0, 0) = NONE | look(4, MAX, 0, 0) = NONE
            """);
        Sentence.holds("look: NONE for others", """
            look(0, 0, 0, 0) = NONE
            sheep(3..4)
            look(0, 0, -1, 0) = NONE | look(0, 0, 2, 0) = NONE | look(0, 0, MIN, 0) = NONE | look(0, 0, MAX, 0) = NONE
            look(0, 0, 1, -1) = NONE | look(0, 0, 1, 2) = NONE | look(0, 0, 1, MIN) = NONE | look(0, 0, 1, MAX) = NONE
            look(0, 0, 1, 0) = 0 | look(0, 0, 1, 1) = 4
            """);
        Sentence.holds("a KNOWING k has the first k of ENTRIES of the YEAR", """
            sheep(3) | act(0, 0, 1, 0) | milking(1) | day(0, 0) | close(0)
            look(1, 1, 0, 0) = NONE | look(0, 1, 0, 0) = 0
            act(0, 0, 2, 0) | look(1, 1, 0, 0) = 0 | look(1, 2, 0, 0) = 1
            """);
    }

    private static void entry() {
        Sentence.holds("Of ENTRY e, what 0 ACT, 1 SHEEP, 2 DAY, 3 OWNER (SELL; else NONE)", """
            sheep(0..1)
            act(0, 1, 150, 5) | act(3, 0, 1, 11) | act(1, 1, 150, 5) | act(3, 0, 2, 0)
            act(0, 1, 150, 5) | act(2, 1, 150, 5)
            entry(0, 0) = 0 | entry(0, 1) = 1 | entry(0, 2) = 150 | entry(0, 3) = NONE
            entry(1, 0) = 3 | entry(1, 1) = 0 | entry(1, 2) = 1 | entry(1, 3) = 11
            entry(2, 0) = 1 | entry(2, 1) = 1 | entry(2, 2) = 150 | entry(2, 3) = NONE
            entry(3, 0) = 3 | entry(3, 1) = 0 | entry(3, 2) = 2 | entry(3, 3) = 0
            entry(5, 0) = 2 | entry(5, 1) = 1 | entry(5, 2) = 150 | entry(5, 3) = NONE
            """);
        Sentence.holds("entry: NONE for others", """
            entry(0, 0..3) = NONE
            sheep(0) | act(3, 0, 1, 11)
            entry(-1, 0..3) = NONE | entry(1, 0..3) = NONE | entry(MIN, 0) = NONE | entry(MAX, 0) = NONE
            entry(0, -1) = NONE | entry(0, 4) = NONE | entry(0, MIN) = NONE | entry(0, MAX) = NONE
            entry(0, 3) = 11
            milking(1) | day(0, 0) | close(0) | entry(0, 0..3) = NONE
            """);
    }
}
