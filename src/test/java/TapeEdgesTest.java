/** The sentences of the document on the tape and RULES, each at its edges: promises 2, 3, 22. */
public final class TapeEdgesTest {
    public static void main(String[] args) {
        feed();
        rules();
        clauses();
        faults();
        rule();
        Due.end();
    }

    private static void feed() {
        Sentence.holds("Twenty bytes come behind the tape: how many it has", """
            count(12) = 0
            feed 'l1;m2;w3;v4;l5;m6;w1' = 20
            count(12) = 20
            feed '23;v7;l8;m9;v41;l777' = 40
            count(12) = 40
            rules(40) = 0
            rule(0) = 777 | rule(1) = 9 | rule(2) = 123 | rule(3) = 41
            """);
        Sentence.holds("the highest of each int first", """
            feed(0x6C313B6D, 0x323B7733, 0x3B763434, 0x35363B6C, 0x37383930) = 20
            rules(20) = 0
            rule(0) = 7890 | rule(1) = 2 | rule(2) = 3 | rule(3) = 4456
            """);
        Sentence.holds("a byte has eight bits, none is cut off", """
            feed(0xEC310000, 0, 0, 0, 0) = 20 | rules(2) = 100
            feed(0x6CB10000, 0, 0, 0, 0) = 20 | rules(2) = 201
            feed(0x6C31BB6D, 0x31000000, 0, 0, 0) = 20 | rules(5) = 402
            feed(MIN, MIN, MIN, MIN, MIN) = 20 | feed(-1, -1, -1, -1, -1) = 40 | rules(40) = 100
            """);
        Sentence.holds("NONE if that would be more than 40", """
            feed 'l1234;m567;w89;v1000' = 20
            feed ';l4321;m765;w98;v999' = 40
            feed(0x6C313233, 1, 2, 3, 4) = NONE
            feed(0, 0, 0, 0, 0) = NONE
            count(12) = 40
            rules(40) = 0 | rule(0) = 4321 | rule(1) = 765 | rule(2) = 98 | rule(3) = 999
            feed(0, 0, 0, 0, 0) = 20
            """);
        Sentence.holds("bytes of the tape that is empty then are not read again", """
            feed 'l1;m2;w3;v4;l5;m6;w7' | rules(2) = 0 | count(12) = 0
            rules(1) = NONE
            feed 'v1' = 20 | rules(3) = 402
            """);
    }

    private static void rules() {
        Sentence.holds("The first n bytes of the tape (empty then) are RULES: 0", """
            feed 'l12;m34;x' | rules(2) = 0 | rule(0) = 1 | rule(1) = 500 | count(12) = 0
            feed 'l12;m34;x' | rules(3) = 0 | rule(0) = 12 | rule(1) = 500 | count(12) = 0
            feed 'l12;m34;x' | rules(7) = 0 | rule(0) = 12 | rule(1) = 34 | count(12) = 0
            """);
        Sentence.holds("NONE: it has not so many (the tape stays)", """
            rules(1) = NONE | rules(MAX) = NONE | count(12) = 0
            feed 'l1234;m567;w89;v1000'
            rules(21) = NONE | rules(MAX) = NONE | count(12) = 20
            rules(20) = 0 | rule(0) = 1234 | rule(1) = 567 | rule(2) = 89 | rule(3) = 1000 | count(12) = 0
            rules(20) = NONE
            feed 'l1234;m567;w89;v1000;l4321;m765;w98;v999'
            rules(41) = NONE | count(12) = 40
            rules(40) = 0 | rule(0) = 4321 | rule(1) = 765 | rule(2) = 98 | rule(3) = 999 | count(12) = 0
            """);
        Sentence.holds("no tape has fewer than no bytes", """
            rules(-1) = NONE | rules(MIN) = NONE
            feed 'l1;m2;w3;v4;l5;m6;w7'
            rules(-1) = NONE | rules(MIN) = NONE | count(12) = 20
            rules(20) = 0
            """);
        Sentence.holds("a FAULT: 100 times its number and its place (RULES stay)", """
            rules 'l1;m2;w3;v4' = 0
            rules 'l9;m8;w7;v6;' = 112
            rule(0) = 1 | rule(1) = 2 | rule(2) = 3 | rule(3) = 4 | count(12) = 0
            rules 'l9;m' = 204
            rule(0) = 1 | rule(1) = 2 | rule(2) = 3 | rule(3) = 4 | count(12) = 0
            rules 'l9;m12345' = 308
            rule(0) = 1 | rule(1) = 2 | rule(2) = 3 | rule(3) = 4 | count(12) = 0
            rules 'l9;m1234x' = 408
            rule(0) = 1 | rule(1) = 2 | rule(2) = 3 | rule(3) = 4 | count(12) = 0
            """);
        Sentence.holds("an empty TEXT has FAULT 1 at its end", """
            rules(0) = 100 | count(12) = 0
            rules 'l1' = 0
            feed 'l9' | rules(0) = 100 | count(12) = 0 | rule(0) = 1
            feed 'l1;m2;w3;v4;l5;m6;w7;v8;l9;m10;w11;v1234' | rules(0) = 100 | count(12) = 0 | rule(0) = 1
            """);
        Sentence.holds("a FAULT's place on a full tape", """
            rules 'l1;l1;l1;l1;l1;l1;l1;l1;l1;l1;l1;l1;l12;' = 140
            rules 'l1;l1;l1;l1;l1;l1;l1;l1;l1;l1;l1;l1;l1;x' = 139
            rules 'l1;l1;l1;l1;l1;l1;l1;l1;l1;l1;l1;l1;l1;m' = 240
            rules 'l1;l1;l1;l1;l1;l1;l1;l1;l1;l1;l1;l12;m;1' = 238
            rules 'l1;l1;l1;l1;l1;l1;l1;l1;l1;l1;l12;v12345' = 339
            rules 'l1;l1;l1;l1;l1;l1;l1;l1;l1;l1;l1;l12;w1x' = 439
            rules 'l1;l1;l1;l1;l1;l1;l1;l1;l1;l1;l12;v1234;' = 140
            rules 'l1;l1;l1;l1;l1;l1;l1;l1;l1;l1;l123;v1234' = 0
            rule(0) = 123 | rule(3) = 1234
            """);
    }

    private static void clauses() {
        Sentence.holds("each a letter and a number of one to four digits", """
            rules 'l0' = 0 | rule(0) = 0
            rules 'm9' = 0 | rule(1) = 9
            rules 'w10' = 0 | rule(2) = 10
            rules 'v999' = 0 | rule(3) = 999
            rules 'l9999' = 0 | rule(0) = 9999
            rules 'm0000' = 0 | rule(1) = 0
            rules 'w0007' = 0 | rule(2) = 7
            rules 'v0123' = 0 | rule(3) = 123
            """);
        Sentence.holds("CLAUSES with a ; (59) between two", """
            rules 'l1;m2' = 0 | rule(0) = 1 | rule(1) = 2
            rules 'w1234;v1' = 0 | rule(2) = 1234 | rule(3) = 1
            rules ';l1' = 100
            rules 'l1;' = 103
            rules 'l1;;m2' = 103
            """);
        Sentence.holds("no blanks", """
            rules ' l1' = 100
            rules 'l 1' = 201
            rules 'l1 ' = 402
            rules 'l1; m2' = 103
            rules 'l1 ;m2' = 402
            rules 'l1 2' = 402
            rules ' ' = 100
            """);
        Sentence.holds("What no CLAUSE tells is as at first: l5, m500, w40, v90", """
            rule(0) = 5 | rule(1) = 500 | rule(2) = 40 | rule(3) = 90
            rules 'l1;m2;w3;v4' = 0
            rules 'l6' = 0 | rule(0) = 6 | rule(1) = 500 | rule(2) = 40 | rule(3) = 90
            rules 'm7' = 0 | rule(0) = 5 | rule(1) = 7 | rule(2) = 40 | rule(3) = 90
            rules 'w8' = 0 | rule(0) = 5 | rule(1) = 500 | rule(2) = 8 | rule(3) = 90
            rules 'v9' = 0 | rule(0) = 5 | rule(1) = 500 | rule(2) = 40 | rule(3) = 9
            rules 'l1;m2;w3' = 0 | rule(0) = 1 | rule(1) = 2 | rule(2) = 3 | rule(3) = 90
            """);
        Sentence.holds("the later one of a letter counts", """
            rules 'l1;l2' = 0 | rule(0) = 2
            rules 'm9999;m0' = 0 | rule(1) = 0
            rules 'w1;w2;w3;w0' = 0 | rule(2) = 0
            rules 'v7;l1;v5;m2;v6' = 0 | rule(0) = 1 | rule(1) = 2 | rule(3) = 6
            """);
    }

    private static void faults() {
        Sentence.holds("1 no such letter there", """
            rules 'k5' = 100 | rules 'n5' = 100 | rules 'u5' = 100 | rules 'x5' = 100
            rules 'L5' = 100 | rules 'M5' = 100 | rules 'W5' = 100 | rules 'V5' = 100
            rules '5' = 100 | rules '55' = 100 | rules ';' = 100 | rules '-l5' = 100
            rules 'l5;k5' = 103 | rules 'l5;5' = 103 | rules 'l1234;x' = 106
            feed(0, 0, 0, 0, 0) | rules(1) = 100
            feed(-1, -1, -1, -1, -1) | rules(20) = 100
            """);
        Sentence.holds("1 no such letter there (the end, too)", """
            rules '' = 100 | rules 'l5;' = 103 | rules 'l55;' = 104 | rules 'l5555;' = 106
            rules 'l5;m5;w5;v5;' = 112
            feed 'l5;m5' | rules(3) = 103
            """);
        Sentence.holds("2 no digit there", """
            rules 'l' = 201 | rules 'm' = 201 | rules 'w' = 201 | rules 'v' = 201
            rules 'l;' = 201 | rules 'lm' = 201 | rules 'l/' = 201 | rules 'l:' = 201 | rules 'l-5' = 201
            rules 'l0' = 0 | rules 'l9' = 0
            rules 'l5;m' = 204 | rules 'l5;m;' = 204 | rules 'l1234;v' = 207
            feed 'l5;m5' | rules(4) = 204
            feed 'l' | rules(2) = 201
            """);
        Sentence.holds("3 a fifth digit (at it)", """
            rules 'l1234' = 0 | rules 'l12345' = 305 | rules 'l00000' = 305 | rules 'l123456' = 305
            rules 'l12340' = 305 | rules 'l12349' = 305
            rules 'm1;v12345' = 308 | rules 'm1234;v12345' = 311
            feed 'l12345' | rules(5) = 0 | rule(0) = 1234
            """);
        Sentence.holds("4 something else than ; or the end behind a CLAUSE", """
            rules 'l1:' = 402 | rules 'l1<' = 402 | rules 'l1/' = 402 | rules 'l1,' = 402 | rules 'l1m1' = 402
            rules 'l1l' = 402 | rules 'l1234x' = 405 | rules 'l1234:' = 405 | rules 'l1234/' = 405
            rules 'l1;m12w3' = 406
            feed 'l1' | rules(3) = 402
            feed 'l1234' | rules(6) = 405
            """);
        Sentence.holds("the first from the left", """
            rules 'x;l;m12345' = 100 | rules 'l;x;m12345' = 201 | rules 'l12345;x;m' = 305
            rules 'l1x;m;12345' = 402 | rules 'l1;x;m;v12345' = 103 | rules 'l1;m;x' = 204
            rules 'lx12345' = 201 | rules 'l12345x' = 305 | rules 'l1234x5' = 405
            """);
    }

    private static void rule() {
        Sentence.holds("The number that RULES tell for a letter, what 0 l, 1 m, 2 w, 3 v", """
            rules 'v4;w3;m2;l1' = 0
            rule(0) = 1 | rule(1) = 2 | rule(2) = 3 | rule(3) = 4
            """);
        Sentence.holds("rule: NONE for others", """
            rule(-1) = NONE | rule(4) = NONE | rule(MIN) = NONE | rule(MAX) = NONE
            """);
    }
}
