/** The sentences of the document on the close of a YEAR and on WORK, each at its edges: promises 12, 13. */
public final class CloseEdgesTest {
    public static void main(String[] args) {
        whenItCan();
        cheeses();
        turn();
        workOwed();
        workDone();
        losses();
        payments();
        purse();
        nextYear();
        Due.end();
    }

    private static void whenItCan() {
        Sentence.holds("CLOSED with so many CHEESES (0 to 1000)", """
            milking(1) | day(0, 0)
            close(-1) = NONE | close(1001) = NONE | close(MIN) = NONE | close(MAX) = NONE | count(0) = 1 | count(1) = 1
            close(0) = 0 | count(0) = 2
            milking(1) | day(0, 0)
            close(1000) = 1000 | count(0) = 3
            """);
        Sentence.holds("if THE FLOCK is DOWN", """
            alp(2) | milking(1) | day(0, 0) | move(0) | close(0) = NONE | move(1) | close(0) = NONE | count(0) = 1
            move(0) | move(NONE) | close(0) = 0 | count(0) = 2
            """);
        Sentence.holds("and THE MILKING's DAY has gone by", """
            close(0) = NONE | day(0, 0) | close(0) = NONE
            milking(3) | close(0) = NONE
            day(0, 0) = 2 | close(0) = NONE | count(0) = 1
            day(0, 0) = 3 | close(0) = 0 | count(0) = 2
            close(0) = NONE | count(0) = 2
            """);
        Sentence.holds("THE MILKING's DAY is the last one of the YEAR", """
            milking(150) | 149 x day(0, 0) | close(0) = NONE | day(0, 0) = 150 | close(0) = 0
            """);
        Sentence.holds("a shut PASS does not keep the YEAR from being CLOSED", """
            milking(1) | day(0, 300) | count(9) = 0 | close(5) = 5 | count(4) = 300
            """);
    }

    private static void cheeses() {
        Sentence.holds("CHEESES times PART / all PARTS, rounded down", """
            sheep(0..2) | act(0, 0..2, 1, 0) | milking(1) | milk(0, 1) | milk(1, 2) | milk(2, 3) | day(0, 0)
            close(6) = 0
            told(0, 2) = 1 | told(1, 2) = 2 | told(2, 2) = 3 | told(3..11, 2) = 0
            told(0, 5) = 0 | told(1, 5) = 1 | told(2, 5) = 2
            act(0, 0..2, 1, 0) | milking(1) | milk(0, 1) | milk(1, 2) | milk(2, 3) | day(0, 0)
            close(5) = 0
            told(0, 2) = 1 | told(1, 2) = 2 | told(2, 2) = 2
            told(0, 5) = 10 | told(1, 5) = 11 | told(2, 5) = 0
            """);
        Sentence.holds("no CHEESES and 1000", """
            sheep(0..1) | act(0, 0..1, 1, 0) | milking(1) | milk(0, 1) | milk(1, 5000) | day(0, 0)
            close(0) = 0 | told(0..1, 1..2) = 0 | told(0, 5) = 0 | told(1, 5) = 1
            act(0, 0..1, 1, 0) | milking(1) | milk(0, 1) | milk(1, 5000) | day(0, 0)
            close(1000) = 0 | told(0, 2) = 1 | told(1, 2) = 999 | told(0, 5) = 11 | told(1, 5) = 0
            """);
        Sentence.holds("one OWNER with the most PART has all", """
            80 x sheep(3) | act(0, 0..79, 1, 0) | milking(1) | milk(0..79, 5000) | day(0, 0)
            close(1000) = 0 | told(3, 2) = 1000 | told(3, 5) = 3 | told(0..2, 2) = 0 | told(4..11, 2) = 0
            """);
        Sentence.holds("(No PARTS at all: nobody has any, all are left over.)", """
            milking(1) | day(0, 0) | close(7) = 7 | told(0..11, 1..2) = 0
            sheep(0) | milking(1) | milk(0, 9) | day(0, 0) | close(1) = 1 | told(0..11, 1..2) = 0
            act(0, 0, 1, 0) | milking(1) | milk(0, 0) | day(0, 0) | close(1000) = 1000 | told(0..11, 1..2) = 0
            told(0, 5) = 0 | told(11, 5) = 11
            """);
        Sentence.holds("the latest CLOSED YEAR without PARTS leaves no CHEESES of the latest one", """
            sheep(0) | act(0, 0, 1, 0) | milking(1) | milk(0, 1) | day(0, 0) | close(4) = 0
            told(0, 1) = 4 | told(0, 2) = 4
            milking(1) | day(0, 0) | close(3) = 3
            told(0, 1) = 4 | told(0, 2) = 0
            """);
        Sentence.holds("By PARTS as known then", """
            sheep(0) | act(0, 0, 1, 0) | milking(1) | milk(0, 100) | 2 x day(0, 0) | part(1, 0) = 100
            act(3, 0, 2, 1) | act(3, 0, 3, 2) | close(2) = 0
            told(0, 2) = 1 | told(1, 2) = 1 | told(2, 2) = 0
            """);
        Sentence.holds("a refused close gives out nothing", """
            sheep(0) | act(0, 0, 1, 0) | milking(1) | milk(0, 100) | day(0, 0)
            close(1001) = NONE | move(0) | close(10) = NONE
            told(0, 1..4) = 0 | told(0, 5) = 0 | count(8) = 1 | count(10) = 1 | part(1, 0) = 100
            """);
    }

    private static void turn() {
        Sentence.holds("those left go one by one by THE TURN: the first of it that has one, who goes to its end", """
            sheep(0..2) | act(0, 0..2, 1, 0) | milking(1) | milk(0..2, 10) | day(0, 0)
            close(4) = 0 | told(0, 2) = 2 | told(1, 2) = 1 | told(2, 2) = 1
            told(0, 5) = 11 | told(1, 5) = 0 | told(2, 5) = 1 | told(3, 5) = 2 | told(11, 5) = 10
            act(0, 0..2, 1, 0) | milking(1) | milk(0..2, 10) | day(0, 0)
            close(5) = 0 | told(0, 2) = 1 | told(1, 2) = 2 | told(2, 2) = 2
            told(0, 5) = 9 | told(1, 5) = 10 | told(2, 5) = 11 | told(3, 5) = 0 | told(11, 5) = 8
            act(0, 0..2, 1, 0) | milking(1) | milk(0..2, 10) | day(0, 0)
            close(1) = 0 | told(0, 2) = 1 | told(1, 2) = 0 | told(2, 2) = 0
            told(0, 5) = 11 | told(1, 5) = 9 | told(2, 5) = 10
            told(0, 1) = 4 | told(1, 1) = 3 | told(2, 1) = 3
            """);
        Sentence.holds("to OWNERS that have a PART", """
            sheep(0..2) | act(0, 0..2, 1, 0) | milking(1) | milk(0, 0) | milk(1..2, 10) | day(0, 0)
            close(1) = 0 | told(0, 2) = 0 | told(1, 2) = 1 | told(2, 2) = 0
            told(0, 5) = 0 | told(1, 5) = 11 | told(2, 5) = 1
            act(0, 0..2, 1, 0) | milking(1) | milk(1..2, 10) | day(0, 0)
            close(1) = 0 | told(2, 2) = 1 | told(0, 5) = 0 | told(1, 5) = 10 | told(2, 5) = 11
            """);
        Sentence.holds("all twelve OWNERS have a PART, eleven CHEESES are left", """
            sheep(0..11) | act(0, 0..11, 1, 0) | milking(1) | milk(0..11, 1) | day(0, 0)
            close(11) = 0 | told(0..10, 2) = 1 | told(11, 2) = 0
            told(11, 5) = 0 | told(0, 5) = 1 | told(10, 5) = 11
            act(0, 0..11, 1, 0) | milking(1) | milk(0..11, 1) | day(0, 0)
            close(13) = 0 | told(11, 2) = 2 | told(0..10, 2) = 1 | told(11, 5) = 11 | told(0, 5) = 0
            act(0, 0..11, 1, 0) | milking(1) | milk(0..11, 1) | day(0, 0)
            close(12) = 0 | told(0..11, 2) = 1 | told(11, 5) = 11 | told(0, 5) = 0
            """);
        Sentence.holds("the last of THE TURN, if nobody else has a PART", """
            sheep(11) | sheep(10) | act(0, 0..1, 1, 0) | milking(1) | milk(0, 2) | milk(1, 1) | day(0, 0)
            close(1) = 0 | told(10, 2) = 1 | told(11, 2) = 0 | told(10, 5) = 11 | told(11, 5) = 10
            act(0, 0, 1, 0) | milking(1) | milk(0, 2) | day(0, 0)
            close(1) = 0 | told(11, 2) = 1 | told(10, 5) = 11 | told(11, 5) = 10
            """);
    }

    private static void workOwed() {
        Sentence.holds("WORK: w times PART / 1000, rounded up, DAYS are OWED by each OWNER", """
            rules 'w100' = 0
            sheep(0..4) | act(0, 0..4, 1, 0) | milking(1) | milk(0, 0) | milk(1, 1) | milk(2, 9) | milk(3, 10) | milk(4, 11)
            day(0, 0) | told(0..4, 3) = 0 | close(0)
            told(0, 3) = 0 | told(1, 3) = 1 | told(2, 3) = 1 | told(3, 3) = 1 | told(4, 3) = 2 | told(5..11, 3) = 0
            """);
        Sentence.holds("rounded up: one thousandth of a DAY is a DAY", """
            rules 'w1' = 0
            sheep(0..3) | act(0, 0..3, 1, 0) | milking(1) | milk(0, 1) | milk(1, 999) | milk(2, 1000) | milk(3, 1001)
            day(0, 0) | close(0) | told(0..2, 3) = 1 | told(3, 3) = 2
            """);
        Sentence.holds("w0 and w9999", """
            rules 'w0' = 0
            80 x sheep(11) | act(0, 0..79, 1, 0) | milking(1) | milk(0..79, 5000) | day(0, 0)
            close(0) | told(11, 3) = 0
            rules 'w9999' = 0
            act(0, 0..79, 1, 0) | milking(1) | milk(0..79, 5000) | day(0, 0)
            close(0) | told(11, 3) = 3999600
            """);
    }

    private static void workDone() {
        Sentence.holds("DAYS of WORK (1 to 1000)", """
            work(0, 0) = false | work(0, -1) = false | work(0, MIN) = false | told(0, 3) = 0
            work(0, 1001) = false | work(0, MAX) = false | told(0, 3) = 0
            work(0, 1) = true | told(0, 3) = -1
            work(0, 1000) = true | told(0, 3) = -1001
            """);
        Sentence.holds("work: no such OWNER", """
            work(-1, 5) = false | work(12, 5) = false | work(MIN, 5) = false | work(MAX, 5) = false | told(0..11, 3) = 0
            work(0, 5) = true | work(11, 6) = true | told(0, 3) = -5 | told(11, 3) = -6 | told(1..10, 3) = 0
            """);
        Sentence.holds("BALANCE: OWED of all YEARS less done", """
            sheep(0) | act(0, 0, 1, 0) | milking(1) | milk(0, 100) | day(0, 0) | work(0, 3) | told(0, 3) = -3
            close(0) | told(0, 3) = 1
            act(0, 0, 1, 0) | milking(1) | milk(0, 101) | day(0, 0) | told(0, 3) = 1 | close(0) | told(0, 3) = 6
            work(0, 6) | told(0, 3) = 0 | work(0, 1) | told(0, 3) = -1
            """);
    }

    private static void losses() {
        Sentence.holds("for each SHEEP that is DEAD", """
            sheep(0..2) | act(0, 0..2, 1, 0) | act(2, 0, 1, 0) | act(2, 1, 3, 0) | act(2, 2, 4, 0)
            milking(1) | 3 x day(0, 0) | close(0)
            told(0, 4) = 90 | told(1, 4) = 90 | told(2, 4) = 0 | count(11) = 180
            """);
        Sentence.holds("or was UP on some DAY and is not at THE END (STRAYED)", """
            sheep(0..5)
            act(0, 0, 1, 0) | act(1, 0, 2, 0) | act(0, 1, 2, 0) | act(1, 1, 3, 0) | act(0, 2, 1, 0) | act(1, 2, 4, 0)
            act(0, 3, 1, 0) | act(1, 3, 2, 0) | act(0, 3, 3, 0) | act(0, 4, 4, 0) | act(1, 4, 5, 0)
            milking(1) | 3 x day(0, 0) | close(0)
            told(0, 4) = 90 | told(1, 4) = 90 | told(2, 4) = 0 | told(3, 4) = 0 | told(4, 4) = 0 | told(5, 4) = 0
            count(11) = 180
            """);
        Sentence.holds("UP on some DAY (behind its ACTS)", """
            sheep(0..2)
            act(0, 0, 2, 0) | act(1, 0, 2, 0)
            act(0, 1, 2, 0) | act(1, 1, 2, 0) | act(0, 1, 2, 0) | act(1, 1, 3, 0)
            act(0, 2, 2, 0) | act(2, 2, 2, 0)
            milking(1) | 3 x day(0, 0) | close(0)
            told(0, 4) = 0 | told(1, 4) = 90 | told(2, 4) = 90
            """);
        Sentence.holds("SHEEP that are DEAD since an earlier YEAR are gone and not paid for again", """
            sheep(0) | act(0, 0, 1, 0) | act(2, 0, 1, 0) | milking(1) | day(0, 0) | close(0) | told(0, 4) = 90
            milking(1) | day(0, 0) | close(0) | told(0, 4) = 90 | count(11) = 90
            """);
        Sentence.holds("a SHEEP that STRAYED in an earlier YEAR is paid for again only if it does so again", """
            sheep(0) | act(0, 0, 1, 0) | act(1, 0, 2, 0) | milking(1) | 2 x day(0, 0) | close(0) | told(0, 4) = 90
            milking(1) | 2 x day(0, 0) | close(0) | told(0, 4) = 90
            act(0, 0, 1, 0) | act(1, 0, 2, 0) | milking(1) | 2 x day(0, 0) | close(0) | told(0, 4) = 180
            """);
    }

    private static void payments() {
        Sentence.holds("v is paid to who has it then", """
            sheep(0..2) | act(0, 0..2, 1, 0) | act(1, 0..2, 2, 0)
            act(3, 0, 2, 5) | act(3, 1, 3, 6) | act(3, 2, 4, 7)
            milking(1) | 3 x day(0, 0) | close(0)
            told(0, 4) = 0 | told(5, 4) = 90 | told(1, 4) = 0 | told(6, 4) = 90 | told(2, 4) = 90 | told(7, 4) = 0
            """);
        Sentence.holds("a DEAD SHEEP is paid to who had it when it died", """
            sheep(0) | act(0, 0, 1, 0) | act(2, 0, 3, 0) | act(3, 0, 2, 5) | milking(1) | 3 x day(0, 0) | close(0)
            told(0, 4) = 0 | told(5, 4) = 90
            """);
        Sentence.holds("v0 and v9999", """
            sheep(0) | rules 'v0' = 0 | act(0, 0, 1, 0) | act(1, 0, 2, 0) | milking(1) | 2 x day(0, 0) | close(0)
            told(0, 4) = 0 | count(11) = 0
            rules 'v9999' = 0 | act(0, 0, 1, 0) | act(1, 0, 2, 0) | milking(1) | 2 x day(0, 0) | close(0)
            told(0, 4) = 9999 | count(11) = 9999
            """);
        Sentence.holds("RULES count as they are when the YEAR is CLOSED", """
            sheep(0) | act(0, 0, 1, 0) | act(1, 0, 2, 0) | milking(1) | milk(0, 1000) | 2 x day(0, 0)
            rules 'v7;w3;l100' = 0 | close(0) | told(0, 4) = 0 | told(0, 3) = 3
            rules 'v8;w9' = 0 | told(0, 4) = 0 | told(0, 3) = 3
            """);
    }

    private static void purse() {
        Sentence.holds("each OWNER pays in: the sum of all that is paid times PART / all PARTS, rounded down", """
            sheep(0..3) | rules 'v100' = 0 | act(0, 0..3, 1, 0) | milking(1) | milk(0..2, 10) | act(1, 3, 2, 0)
            2 x day(0, 0) | close(0)
            told(0, 4) = -33 | told(1, 4) = -33 | told(2, 4) = -33 | told(3, 4) = 100 | count(11) = 1
            """);
        Sentence.holds("pays in of the sum of all, not of each one", """
            sheep(0..3) | rules 'v5' = 0 | act(0, 0..3, 1, 0) | milking(1) | milk(0, 10) | milk(1, 10) | act(1, 2..3, 2, 0)
            2 x day(0, 0) | close(0)
            told(0, 4) = -5 | told(1, 4) = -5 | told(2, 4) = 5 | told(3, 4) = 5 | count(11) = 0
            """);
        Sentence.holds("what lacks is PURSE's own", """
            sheep(0..2) | rules 'v1' = 0 | act(0, 0..2, 1, 0) | milking(1) | milk(0, 1) | milk(1, 2) | act(1, 2, 2, 0)
            2 x day(0, 0) | close(0)
            told(0, 4) = 0 | told(1, 4) = 0 | told(2, 4) = 1 | count(11) = 1
            rules 'v3' = 0 | act(0, 0..2, 1, 0) | milking(1) | milk(0, 1) | milk(1, 2) | act(1, 2, 2, 0)
            2 x day(0, 0) | close(0)
            told(0, 4) = -1 | told(1, 4) = -2 | told(2, 4) = 4 | count(11) = 1
            """);
        Sentence.holds("also all if there are no PARTS", """
            sheep(0) | act(0, 0, 1, 0) | act(1, 0, 2, 0) | milking(1) | 2 x day(0, 0) | close(0)
            told(0, 4) = 90 | told(1..11, 4) = 0 | count(11) = 90
            act(0, 0, 1, 0) | act(1, 0, 2, 0) | milking(1) | 2 x day(0, 0) | close(0)
            told(0, 4) = 180 | count(11) = 180
            """);
        Sentence.holds("who has a PART pays in for its own loss, too", """
            sheep(0) | act(0, 0, 1, 0) | act(2, 0, 2, 0) | milking(1) | milk(0, 1000) | 2 x day(0, 0) | close(0)
            told(0, 4) = 0 | count(11) = 0 | told(0, 3) = 40
            """);
        Sentence.holds("nothing is paid if nothing was lost", """
            sheep(0..1) | act(0, 0, 1, 0) | milking(1) | milk(0, 1000) | day(0, 0) | close(0)
            told(0..11, 4) = 0 | count(11) = 0
            """);
        Sentence.holds("the most losses of the most value", """
            rules 'v9999;l0' = 0
            50 x sheep(0) | 5 x sheep(1) | act(0, 0..49, 1, 0) | act(2, 0..49, 2, 0) | milking(1) | milk(0..49, 5000)
            2 x day(0, 0) | part(100, 0) = 250000 | close(1000) = 0
            told(0, 4) = 0 | told(0, 0) = 0 | count(11) = 0 | told(0, 3) = 10000 | told(1, 0) = 5
            """);
    }

    private static void nextYear() {
        Sentence.holds("SHEEP that are not DEAD are of those who have them at THE END", """
            sheep(0..1) | act(3, 0, 2, 5) | act(3, 0, 3, 6) | act(3, 1, 1, 7) | milking(1) | 2 x day(0, 0) | close(0)
            look(0, 0, 0, 1) = 5 | look(0, 150, 0, 1) = 5 | look(0, 0, 1, 1) = 7
            told(0, 0) = 0 | told(5, 0) = 1 | told(6, 0) = 0 | told(7, 0) = 1
            act(3, 0, 1, 5) = NONE | act(3, 0, 1, 6) = 0
            """);
        Sentence.holds("not UP", """
            sheep(0..1) | act(0, 0..1, 1, 0) | act(1, 1, 2, 0) | milking(1) | 3 x day(0, 0) | count(7) = 1 | close(0)
            count(7) = 0 | look(0, 0, 0..1, 0) = 0 | look(0, 150, 0..1, 0) = 0
            day(0, 0) | count(7) = 0
            act(1, 0, 1, 0) = NONE | act(0, 0, 1, 0) = 0 | act(0, 1, 1, 0) = 1 | count(7) = 2
            """);
        Sentence.holds("no ENTRIES, MILK, no MILKING; DAY 0", """
            sheep(0) | act(0, 0, 1, 0) | milking(2) | milk(0, 50) | 3 x day(0, 0) | close(0)
            count(8) = 0 | entry(0, 0) = NONE | count(10) = NONE | count(1) = 0 | count(0) = 2
            credit(0, 0) = 0 | credit(1, 0) = NONE | part(0, 0) = 0
            act(0, 0, 1, 0) = 0 | milking(1) | day(0, 0) = 1
            credit(1, 0) = 0 | part(1, 0) = 0
            """);
        Sentence.holds("GRASS and SNOW stay, HUNGER is 0", """
            alp(2) | height(0, 15, 100, 0) | height(1, 70, 60, 5) | sheep(0) | act(0, 0, 1, 0) | move(0)
            day(0, 6) | day(0, 6) | count(5) = 5 | move(NONE) | milking(1) | close(0)
            grass(0, 0) = 0 | grass(1, 0) = 70 | grass(0, 1) = 100 | grass(1, 1) = 60 | grass(1, 2) = 5 | count(2) = 2
            count(4) = 12 | count(5) = 0 | count(13) = 15 | count(3) = NONE
            """);
        Sentence.holds("RULES, the tape and the latest way() stay", """
            rules 'l1;m2;w3;v4' = 0 | feed 'l6;m7' | way(2, 0) | milking(1) | day(0, 0) | close(0)
            rule(0) = 1 | rule(1) = 2 | rule(2) = 3 | rule(3) = 4 | count(12) = 20 | step(0) = 0 | step(1) = 0
            rules(5) = 0 | rule(0) = 6 | rule(1) = 7
            """);
    }
}
