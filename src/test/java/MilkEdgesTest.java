/** The sentences of the document on MILK, CREDIT and PARTS, each at its edges: promises 10, 11, 15, 16. */
public final class MilkEdgesTest {
    public static void main(String[] args) {
        milking();
        milk();
        milkOfThatDay();
        creditOfDays();
        creditFloor();
        credit();
        partOfDays();
        part();
        Due.end();
    }

    private static void milking() {
        Sentence.holds("milking: no such DAY (1 to 150): the first one", """
            milking(0) = false | milking(-1) = false | milking(MIN) = false | count(10) = NONE
            milking(1) = true | count(10) = 1
            """);
        Sentence.holds("milking: no such DAY (1 to 150): the last one", """
            milking(151) = false | milking(MAX) = false | count(10) = NONE
            milking(150) = true | count(10) = 150
            """);
        Sentence.holds("milking: it was told", """
            milking(5) = true
            milking(5) = false | milking(4) = false | milking(6) = false | milking(0) = false | count(10) = 5
            """);
        Sentence.holds("THE MILKING is on a DAY of the YEAR (told once)", """
            milking(1) | day(0, 0) | close(0) | count(10) = NONE
            milking(2) = true | milking(1) = false | count(10) = 2
            """);
        Sentence.holds("THE MILKING may be on a DAY gone by, on the last one or ahead", """
            3 x day(0, 0) | milking(1) = true | close(0)
            3 x day(0, 0) | milking(3) = true | close(0)
            3 x day(0, 0) | milking(4) = true | close(0) = NONE | day(0, 0) | close(0) = 0
            """);
    }

    private static void milk() {
        Sentence.holds("milk: THE MILKING was not told", """
            sheep(0) | milk(0, 5) = false
            milking(0) = false | milk(0, 5) = false
            milking(1) = true | milk(0, 5) = true
            act(0, 0, 1, 0) | day(0, 0) | close(0)
            milk(0, 5) = false
            """);
        Sentence.holds("milk: no such SHEEP", """
            milking(1) | milk(0, 5) = false
            sheep(0..1)
            milk(-1, 5) = false | milk(2, 5) = false | milk(MIN, 5) = false | milk(MAX, 5) = false
            milk(0, 5) = true | milk(1, 5) = true
            """);
        Sentence.holds("milk of the 80th SHEEP, not of an 81st one", """
            80 x sheep(0) | milking(1)
            milk(80, 5) = false | milk(79, 5) = true
            act(0, 79, 1, 0) | day(0, 0) | credit(1, 79) = 5
            """);
        Sentence.holds("MILK (told, 0 to 5000)", """
            sheep(0) | act(0, 0, 1, 0) | milking(1) | day(0, 0) | milk(0, 7) = true | credit(1, 0) = 7
            milk(0, -1) = false | milk(0, MIN) = false | credit(1, 0) = 7
            milk(0, 5001) = false | milk(0, MAX) = false | credit(1, 0) = 7
            milk(0, 0) = true | credit(1, 0) = 0
            milk(0, 5000) = true | credit(1, 0) = 5000
            """);
        Sentence.holds("MILK is told anew at any time", """
            sheep(0) | act(0, 0, 1, 0) | milking(2) | milk(0, 1) = true | milk(0, 2) = true
            day(0, 0) | milk(0, 3) = true | day(0, 0) | milk(0, 4) = true | day(0, 0) | milk(0, 5) = true
            credit(1, 0) = 5
            milk(0, 5) = true | milk(0, 0) = true | credit(1, 0) = 0
            """);
        Sentence.holds("MILK that was not told is 0", """
            sheep(0) | act(0, 0, 1, 0) | day(0, 0) | credit(1, 0) = 0
            milking(1) | credit(1, 0) = 0 | part(1, 0) = 0
            """);
    }

    private static void milkOfThatDay() {
        Sentence.holds("a SHEEP that is UP on that DAY has MILK, all others 0", """
            rules 'l0' = 0
            sheep(0..6) | milking(5) | milk(0..6, 100) = true
            act(0, 0, 5, 0) | act(0, 1, 6, 0) | act(0, 2, 1, 0) | act(1, 2, 5, 0) | act(0, 3, 1, 0) | act(1, 3, 6, 0)
            act(0, 4, 5, 0) | act(2, 4, 5, 0) | act(0, 5, 5, 0) | act(2, 5, 6, 0)
            7 x day(0, 0)
            credit(10, 0) = 100 | credit(10, 1) = 0 | credit(10, 2) = 0 | credit(10, 3) = 100
            credit(10, 4) = 0 | credit(10, 5) = 100 | credit(10, 6) = 0
            """);
        Sentence.holds("(of one that is not UP on that DAY it counts as 0): true", """
            rules 'l0' = 0
            sheep(0) | milking(1) | milk(0, 50) = true | 3 x day(0, 0) | credit(0, 0) = 0
            act(0, 0, 1, 0) | credit(1, 0) = 50 | credit(0, 0) = 0
            act(1, 0, 1, 0) | credit(2, 0) = 0 | credit(1, 0) = 50
            act(0, 0, 1, 0) | credit(3, 0) = 50
            """);
        Sentence.holds("MILK of a SHEEP that is DEAD since an earlier YEAR counts as 0", """
            sheep(0) | act(0, 0, 1, 0) | act(2, 0, 1, 0) | milking(1) | day(0, 0) | close(0)
            milking(1) | milk(0, 50) = true | day(0, 0) | credit(0, 0) = 0 | part(0, 0) = 0 | close(9) = 9
            """);
    }

    private static void creditOfDays() {
        Sentence.holds("l times the DAYS from 1 to THE END on which it was not UP", """
            rules 'l10' = 0
            sheep(0) | act(0, 0, 3, 0) | act(1, 0, 5, 0) | act(0, 0, 6, 0) | act(1, 0, 8, 0) | milking(3) | milk(0, 1000)
            day(0, 0) | credit(4, 0) = 990
            day(0, 0) | credit(4, 0) = 980
            day(0, 0) | credit(4, 0) = 980
            day(0, 0) | credit(4, 0) = 980
            day(0, 0) | credit(4, 0) = 970
            day(0, 0) | credit(4, 0) = 970
            day(0, 0) | credit(4, 0) = 970
            day(0, 0) | credit(4, 0) = 960
            day(0, 0) | credit(4, 0) = 950
            """);
        Sentence.holds("no DAY and 149 DAYS on which it was not UP", """
            rules 'l6;m0' = 0
            sheep(0..1) | act(0, 0, 1, 0) | act(0, 1, 150, 0) | milking(150) | milk(0..1, 1000)
            149 x day(0, 0) | day(0, 0) = 150
            credit(2, 0) = 1000 | credit(2, 1) = 106
            """);
        Sentence.holds("who strays and is found on one DAY was UP on it", """
            sheep(0) | act(0, 0, 1, 0) | act(1, 0, 2, 0) | act(0, 0, 2, 0) | milking(1) | milk(0, 1000) | 3 x day(0, 0)
            credit(2, 0) = 990 | credit(3, 0) = 1000
            """);
        Sentence.holds("CREDIT / 1000, rounded down", """
            rules 'l1' = 0
            sheep(0) | act(0, 0, 2, 0) | milking(2) | 2 x day(0, 0)
            milk(0, 1) | credit(1, 0) = 0
            milk(0, 2) | credit(1, 0) = 1
            milk(0, 999) | credit(1, 0) = 998
            milk(0, 1000) | credit(1, 0) = 999
            milk(0, 1001) | credit(1, 0) = 999
            milk(0, 5000) | credit(1, 0) = 4995
            """);
    }

    private static void creditFloor() {
        Sentence.holds("not below m", """
            sheep(0) | act(0, 0, 2, 0) | milking(2) | milk(0, 1000) | 2 x day(0, 0)
            rules 'l499' = 0 | credit(1, 0) = 501
            rules 'l500' = 0 | credit(1, 0) = 500
            rules 'l501' = 0 | credit(1, 0) = 500
            rules 'l9999' = 0 | credit(1, 0) = 500
            rules 'l300;m699' = 0 | credit(1, 0) = 700
            rules 'l300;m700' = 0 | credit(1, 0) = 700
            rules 'l300;m701' = 0 | credit(1, 0) = 701
            """);
        Sentence.holds("not below m: m0", """
            sheep(0) | act(0, 0, 2, 0) | milking(2) | milk(0, 1000) | 2 x day(0, 0)
            rules 'l999;m0' = 0 | credit(1, 0) = 1
            rules 'l1000;m0' = 0 | credit(1, 0) = 0
            rules 'l1001;m0' = 0 | credit(1, 0) = 0 | part(1, 0) = 0
            rules 'l9999;m0' = 0 | credit(1, 0) = 0 | part(1, 0) = 0
            """);
        Sentence.holds("(or 1000, if m is above that)", """
            sheep(0) | act(0, 0, 2, 0) | milking(2) | milk(0, 1000) | 2 x day(0, 0)
            rules 'l9999;m999' = 0 | credit(1, 0) = 999
            rules 'l9999;m1000' = 0 | credit(1, 0) = 1000
            rules 'l9999;m1001' = 0 | credit(1, 0) = 1000
            rules 'l9999;m9999' = 0 | credit(1, 0) = 1000
            rules 'l0;m9999' = 0 | credit(1, 0) = 1000
            """);
    }

    private static void credit() {
        Sentence.holds("credit: (0 ahead of DAY 1.)", """
            sheep(0) | act(0, 0, 1, 0) | milking(1) | milk(0, 1000)
            credit(0, 0) = 0 | credit(1, 0) = 0
            day(0, 0) | credit(0, 0) = 0 | credit(1, 0) = 1000
            close(0) | credit(0, 0) = 0
            """);
        Sentence.holds("credit by KNOWING k: 0 and the last one", """
            sheep(0)
            credit(0, 0) = 0 | credit(1, 0) = NONE
            act(0, 0, 1, 0) | act(1, 0, 3, 0) | milking(1) | milk(0, 1000) | 4 x day(0, 0)
            credit(0, 0) = 0 | credit(1, 0) = 1000 | credit(2, 0) = 990
            credit(3, 0) = NONE | credit(-1, 0) = NONE | credit(MIN, 0) = NONE | credit(MAX, 0) = NONE
            """);
        Sentence.holds("credit (THE END as it is now), not as it was when the last of KNOWING k was told", """
            sheep(0) | act(0, 0, 1, 0) | milking(1) | milk(0, 1000) | day(0, 0) | act(1, 0, 2, 0)
            credit(2, 0) = 1000 | 2 x day(0, 0) | credit(2, 0) = 990 | credit(1, 0) = 1000
            """);
        Sentence.holds("credit: NONE: no such SHEEP", """
            credit(0, 0) = NONE
            sheep(0..1)
            credit(0, 1) = 0 | credit(0, 2) = NONE | credit(0, -1) = NONE | credit(0, MIN) = NONE | credit(0, MAX) = NONE
            """);
    }

    private static void partOfDays() {
        Sentence.holds("CREDIT times DAYS / THE END, rounded down; what is left to who has it at THE END", """
            sheep(0) | act(0, 0, 1, 0) | milking(1) | milk(0, 100) | 3 x day(0, 0)
            part(1, 0) = 100
            act(3, 0, 2, 1) | part(2, 0) = 33 | part(2, 1) = 67
            act(3, 0, 3, 2) | part(3, 0) = 33 | part(3, 1) = 33 | part(3, 2) = 34
            milk(0, 99) | part(3, 0) = 33 | part(3, 1) = 33 | part(3, 2) = 33
            milk(0, 1) | part(3, 0) = 0 | part(3, 1) = 0 | part(3, 2) = 1
            milk(0, 2) | part(3, 0) = 0 | part(3, 1) = 0 | part(3, 2) = 2
            milk(0, 3) | part(3, 0) = 1 | part(3, 1) = 1 | part(3, 2) = 1
            """);
        Sentence.holds("to who had it by DAYS 1 to THE END", """
            sheep(0) | act(0, 0, 1, 0) | milking(1) | milk(0, 100) | 2 x day(0, 0)
            act(3, 0, 3, 5) | part(2, 0) = 100 | part(2, 5) = 0
            act(3, 0, 1, 6) | part(3, 0) = 0 | part(3, 6) = 100
            day(0, 0) | part(3, 6) = 66 | part(3, 5) = 34
            """);
        Sentence.holds("(who has it on a DAY: behind all ACTS of that DAY)", """
            sheep(0) | act(0, 0, 1, 0) | milking(1) | milk(0, 100) | 2 x day(0, 0)
            act(3, 0, 2, 1) | act(3, 0, 2, 2) | part(3, 0) = 50 | part(3, 1) = 0 | part(3, 2) = 50
            act(3, 0, 2, 0) | part(4, 0) = 100 | part(4, 1..11) = 0
            """);
        Sentence.holds("all DAYS of an OWNER who had it twice", """
            sheep(0) | act(0, 0, 1, 0) | milking(1) | milk(0, 10) | 4 x day(0, 0)
            act(3, 0, 2, 1) | act(3, 0, 3, 0) | act(3, 0, 4, 2)
            part(4, 0) = 5 | part(4, 1) = 2 | part(4, 2) = 3
            """);
        Sentence.holds("each SHEEP's CREDIT", """
            80 x sheep(11) | act(0, 0..79, 1, 0) | milking(1) | milk(0..79, 5000) | day(0, 0)
            part(80, 11) = 400000 | part(79, 11) = 395000 | part(1, 11) = 5000 | part(0, 11) = 0
            """);
        Sentence.holds("each SHEEP's CREDIT is rounded on its own", """
            sheep(0) | sheep(0) | act(0, 0..1, 1, 0) | act(3, 0..1, 2, 1) | milking(1) | milk(0..1, 1) | 2 x day(0, 0)
            part(4, 0) = 0 | part(4, 1) = 2
            """);
        Sentence.holds("who has a DEAD or STRAYED SHEEP has its PART", """
            sheep(0..1) | act(0, 0..1, 1, 0) | act(2, 0, 2, 0) | act(1, 1, 2, 0) | milking(1) | milk(0..1, 1000)
            2 x day(0, 0) | part(4, 0) = 995 | part(4, 1) = 995
            act(3, 1, 2, 7) | part(5, 1) = 497 | part(5, 7) = 498
            """);
    }

    private static void part() {
        Sentence.holds("part by KNOWING k: 0 and the last one", """
            sheep(0)
            part(0, 0) = 0 | part(1, 0) = NONE
            act(0, 0, 1, 0) | act(3, 0, 2, 1) | milking(1) | milk(0, 100) | 2 x day(0, 0)
            part(0, 0) = 0 | part(1, 0) = 100 | part(2, 0) = 50 | part(2, 1) = 50
            part(3, 0) = NONE | part(-1, 0) = NONE | part(MIN, 0) = NONE | part(MAX, 0) = NONE
            """);
        Sentence.holds("part: NONE: no such OWNER", """
            part(0, -1) = NONE | part(0, 12) = NONE | part(0, MIN) = NONE | part(0, MAX) = NONE
            part(0, 0) = 0 | part(0, 11) = 0
            """);
        Sentence.holds("no PART ahead of DAY 1", """
            sheep(0) | act(0, 0, 1, 0) | milking(1) | milk(0, 100)
            part(1, 0..11) = 0 | day(0, 0) | part(1, 0) = 100 | part(1, 1..11) = 0
            """);
    }
}
