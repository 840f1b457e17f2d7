/** Terms, part I: rooms, people, nights, and how a house is told. */
final class HouseSentences {
    private static final String KIND_LETTERS = "tlspwd";
    /** A statement of each form; its people, rooms and nights are all as they must be. */
    private static final String EACH_FORM = "rt000;vl00011;p5;k000019;n01;";

    private final Sentences s;

    HouseSentences(Sentences s) {
        this.s = s;
    }

    void look() {
        s.in("What it is");
        calls();
        s.in("Terms");
        rooms();
        things();
        people();
        night();
        letters();
        statementR();
        statementV();
        statementP();
        statementK();
        statementN();
        atLeastOne();
        strayLetters();
        amiss();
        numbersOutOfRange();
        allOrNothing();
    }

    private void calls() {
        s.says("An object is used for at most 512 calls after it has been made; what later calls answer is free.");
        FoughtFromMemory x = new FoughtFromMemory();
        for (int i = 1; i <= 510; i++) {
            s.due("call " + i, x.turn(24, i % 6, i % 10), i == 1 ? 0 : 10 * ((i - 1) % 6) + (i - 1) % 10);
        }
        s.due("call 511", x.on(), -3);
        s.due("call 512", x.count(13), 1);
    }

    private void rooms() {
        s.says("ROOMS 0 .. 24: row ROOM by 5, column ROOM modulo 5; BESIDE: up, left, right, down in the house.");
        s.aRoom("room", room -> new FoughtFromMemory().room(room, 0));
        for (int from = 0; from < 25; from++) {
            FoughtFromMemory x = new FoughtFromMemory();
            for (int to = 0; to < 25; to++) {
                int steps = Math.abs(from / 5 - to / 5) + Math.abs(from % 5 - to % 5);
                s.due("minutes from " + from + " to " + to, x.burns(from, 0, to), 2 * steps);
            }
        }
        FoughtFromMemory x = new FoughtFromMemory();
        s.due("the end of a row is not beside the next one's begin", x.burns(4, 0, 5), 10);
        s.due("nor the other way", x.burns(5, 0, 4), 10);
        s.due("the top is not beside the bottom", x.burns(2, 0, 22), 8);
        s.due("none behind the last", x.burns(24, 0, 0), 16);
    }

    private void things() {
        s.says("KINDS of THINGS in the ROOMS, each with a FIGURE (0 .. 9) (KIND t, FIGURE 0 at first).");
        FoughtFromMemory x = new FoughtFromMemory();
        for (int room = 0; room < 25; room++) {
            s.due("kind at first", x.room(room, 0), 0);
            s.due("figure at first", x.room(room, 1), 0);
        }
        for (int figure = 0; figure <= 9; figure++) {
            x.turn(figure, 1, figure);
            s.due("figure " + figure, x.room(figure, 1), figure);
        }
        s.aNumber("turn", 0, 9, figure -> x.turn(24, 0, figure));
    }

    private void people() {
        s.says("PEOPLE 0 .. as they come (5 at most): SHARP (1 .. 9), KNOWS each ROOM so well (0 .. 9; 0 at first).");
        FoughtFromMemory x = new FoughtFromMemory();
        s.due("nobody yet", x.person(0, -1), -1);
        for (int person = 0; person < 5; person++) {
            s.due("one more", Checks.tell(x, "p" + (9 - person) + ";"), 1);
            s.due("as they come", x.person(person, -1), 9 - person);
            s.due("nobody behind the last", x.person(person + 1, -1), -1);
            for (int room = 0; room < 25; room++) {
                s.due("knows at first", x.person(person, room), 0);
            }
        }
        s.due("no sixth", Checks.tell(x, "p1;"), -2000);
        s.due("people", x.count(0), 5);
        s.aPerson("person", 5, person -> x.person(person, 0));
        s.aNumber("sharp", 1, 9, v -> x.sharp(4, v));
        s.aNumber("visit", 0, 9, v -> x.visit(4, 24, v));
    }

    private void night() {
        s.says("NIGHT (0 .. 999; 0 at first).");
        FoughtFromMemory x = new FoughtFromMemory();
        s.due("at first", x.count(1), 0);
        Sentences.pass(x, 998);
        s.due("998 have gone by", x.count(1), 998);
        s.due("two more are too many", x.nights(2), -6);
        s.due("still 998", x.count(1), 998);
        s.due("one more", x.nights(1), 0);
        s.due("the last night", x.count(1), 999);
        s.due("none behind it", x.nights(1), -6);
        s.due("none behind it by letters", Checks.tell(x, "n01;"), -2000);
        s.due("still the last night", x.count(1), 999);
    }

    private void letters() {
        s.says("A HOUSE is told in letters, one by one (96 at most): STATEMENTS, each with \";\" behind:");
        FoughtFromMemory x = new FoughtFromMemory();
        String full = "n01;".repeat(24);
        for (int i = 0; i < 96; i++) {
            s.due("letter " + i, x.letter(full.charAt(i)), i + 1);
        }
        s.due("no 97th", x.letter(';'), -6);
        s.due("96 letters", x.count(7), 96);
        s.due("a full telling", x.house(), 24);
        s.due("all 24 nights", x.count(1), 24);
        s.due("its end lacks", Sentences.houseOf("p1"), -1002);
        s.due("the second one's end lacks", Sentences.houseOf("p1;p1"), -1005);
        s.due("another end", Sentences.houseOf("p1:"), -1002);
        s.due("an end without a statement", Sentences.houseOf(";"), -1000);
        s.due("two ends", Sentences.houseOf("p1;;"), -1003);
        s.due("nothing between them", Sentences.houseOf("p1;n01;"), 2);
        s.due("a blank between them", Sentences.houseOf("p1; n01;"), -1003);
    }

    private void statementR() {
        s.says("\"r\" a letter of a KIND, a ROOM (2 digits), FIGURE (a digit): its THING;");
        for (int kind = 0; kind < 6; kind++) {
            FoughtFromMemory x = Sentences.told("r" + KIND_LETTERS.charAt(kind) + "127;");
            s.due("its kind", x.room(12, 0), kind);
            s.due("its figure", x.room(12, 1), 7);
            s.due("not the one before", x.turn(11, 0, 0), 0);
            s.due("not the one behind", x.turn(13, 0, 0), 0);
        }
        s.due("the first room", Sentences.told("rd009;").room(0, 4), 9);
        s.due("the last room", Sentences.told("rd249;").room(24, 4), 9);
        s.due("figure 0", Sentences.told("rd249;rd240;").room(24, 4), 0);
        s.due("no such kind", Sentences.houseOf("rx000;"), -1001);
        s.due("a kind is a small letter", Sentences.houseOf("rT000;"), -1001);
        s.due("a room of one digit", Sentences.houseOf("rt0;"), -1003);
        s.due("no figure", Sentences.houseOf("rt00;"), -1004);
        s.due("a figure of two digits", Sentences.houseOf("rt0000;"), -1005);
        s.due("behind the last room", Sentences.houseOf("rt250;"), -2000);
        s.due("far behind", Sentences.houseOf("rt999;"), -2000);
    }

    private void statementV() {
        s.says("\"v\" a letter of a KIND, two ROOMS (2 digits each, the first no more than the other), FIGURE (a "
                + "digit): all from the one to the other;");
        FoughtFromMemory x = Sentences.told("vl03053;");
        for (int room = 0; room < 25; room++) {
            s.due("was in " + room, x.turn(room, 0, 0), room >= 3 && room <= 5 ? 13 : 0);
        }
        s.due("all rooms", Sentences.told("vw00249;").count(3), 25);
        s.due("one room", Sentences.told("vw12120;").count(3), 1);
        s.due("the first room alone", Sentences.told("vw00000;").room(0, 0), 4);
        s.due("the last room alone", Sentences.told("vw24240;").room(24, 0), 4);
        s.due("the first one more by 1", Sentences.houseOf("vl13123;"), -2000);
        s.due("the other behind the last", Sentences.houseOf("vl24250;"), -2000);
        s.due("both behind the last", Sentences.houseOf("vl25250;"), -2000);
        s.due("one room lacks", Sentences.houseOf("vl030;"), -1005);
        s.due("no figure", Sentences.houseOf("vl0305;"), -1006);
        s.due("two figures", Sentences.houseOf("vl030533;"), -1007);
        s.due("no such kind", Sentences.houseOf("v003053;"), -1001);
    }

    private void statementP() {
        s.says("\"p\" SHARP (a digit): one of PEOPLE more;");
        for (int sharp = 1; sharp <= 9; sharp++) {
            FoughtFromMemory x = Sentences.told("p" + sharp + ";");
            s.due("one more", x.count(0), 1);
            s.due("sharp " + sharp, x.person(0, -1), sharp);
        }
        s.due("never 0", Sentences.houseOf("p0;"), -2000);
        s.due("never two digits", Sentences.houseOf("p10;"), -1002);
        s.due("never none", Sentences.houseOf("p;"), -1001);
    }

    private void statementK() {
        s.says("\"k\" one of them (a digit), two ROOMS (2 digits each, likewise), how well (a digit): he KNOWS all of "
                + "these so;");
        FoughtFromMemory x = Sentences.told("p5;p6;k103057;");
        for (int room = 0; room < 25; room++) {
            s.due("knows " + room, x.person(1, room), room >= 3 && room <= 5 ? 7 : 0);
            s.due("the other one knows " + room, x.person(0, room), 0);
        }
        s.due("all rooms by 9", Sentences.told("p5;k000249;").count(5), 225);
        s.due("all rooms by 0", Sentences.told("p5;k000249;k000240;").count(5), 0);
        s.due("one room", Sentences.told("p5;k012127;").count(5), 7);
        s.due("the last room", Sentences.told("p5;k024247;").person(0, 24), 7);
        s.due("the first one more by 1", Sentences.houseOf("p5;k013127;"), -2003);
        s.due("the other behind the last", Sentences.houseOf("p5;k024257;"), -2003);
        s.due("nobody with that number", Sentences.houseOf("p5;k100007;"), -2003);
        s.due("nobody has number 9", Sentences.houseOf("p1;p1;p1;p1;p1;k900007;"), -2015);
        s.due("the fifth", Sentences.told("p1;p1;p1;p1;p1;k400007;").person(4, 0), 7);
        s.due("how well lacks", Sentences.houseOf("p5;k00305;"), -1009);
        s.due("a digit more", Sentences.houseOf("p5;k0030577;"), -1010);
    }

    private void statementN() {
        s.says("\"n\" NIGHTS (2 digits, 1 .. 60): they go by.");
        s.due("one", Sentences.told("n01;").count(1), 1);
        s.due("sixty", Sentences.told("n60;").count(1), 60);
        s.due("they are forgotten in", Sentences.told("p4;k000009;n11;").person(0, 0), 7);
        s.due("none", Sentences.houseOf("n00;"), -2000);
        s.due("sixty-one", Sentences.houseOf("n61;"), -2000);
        s.due("ninety-nine", Sentences.houseOf("n99;"), -2000);
        s.due("one digit", Sentences.houseOf("n1;"), -1002);
        s.due("three digits", Sentences.houseOf("n001;"), -1003);
    }

    private void atLeastOne() {
        s.says("At least one STATEMENT.");
        FoughtFromMemory x = new FoughtFromMemory();
        s.due("none", x.house(), -1000);
        s.due("none again", x.house(), -1000);
        s.due("one", Checks.tell(x, "p1;"), 1);
        s.due("none behind one", x.house(), -1000);
        s.due("that one stays", x.count(0), 1);
    }

    private void strayLetters() {
        s.says("FAULT: kind 1 the place of the first letter with which no HOUSE can go on (the end, if something "
                + "lacks): -1000 less the place;");
        for (int c = 0; c <= 255; c++) {
            s.due("letter " + c + " alone", Sentences.houseOf("" + (char) c), "rvpkn".indexOf(c) >= 0 ? -1001 : -1000);
        }
        int statements = 0;
        for (int length = 1; length <= EACH_FORM.length(); length++) {
            boolean ended = EACH_FORM.charAt(length - 1) == ';';
            statements += ended ? 1 : 0;
            String begun = EACH_FORM.substring(0, length);
            s.due("lacks behind " + begun, Sentences.houseOf(begun), ended ? statements : -1000 - length);
        }
        for (int place = 0; place < EACH_FORM.length(); place++) {
            for (char stray : new char[] {0, ' ', '/', ':', 'A', 'x', 127, 255}) {
                String letters = EACH_FORM.substring(0, place) + stray + EACH_FORM.substring(place + 1);
                s.due("astray at " + place + ": " + (int) stray, Sentences.houseOf(letters), -1000 - place);
            }
        }
        s.due("the first of two", Sentences.houseOf("p1x;n0x;"), -1002);
        s.due("lacks at the 95th letter", Sentences.houseOf("n01;".repeat(23) + "n01"), -1095);
        s.due("lacks behind the 96th letter", Sentences.houseOf("n01;".repeat(23) + "p1;p"), -1096);
        s.due("astray at the 96th letter", Sentences.houseOf("n01;".repeat(23) + "p1;;"), -1095);
    }

    private void amiss() {
        s.says("else kind 2 the place of the first letter of the first STATEMENT that is not as it must be (a number "
                + "out of range, nobody so far with that number, NIGHT above 999, no room for more): -2000 less the "
                + "place.");
        s.due("the second", Sentences.houseOf("p1;p0;"), -2003);
        s.due("the first of two", Sentences.houseOf("p1;n00;p0;"), -2003);
        s.due("the last of a full telling", Sentences.houseOf("n01;".repeat(23) + "n00;"), -2092);
        s.due("kind 1 behind it goes before", Sentences.houseOf("p0;x"), -1003);
        s.due("something that lacks goes before", Sentences.houseOf("p0;p"), -1004);
        s.due("nobody so far", Sentences.houseOf("k000001;p1;"), -2000);
        s.due("the next one comes later", Sentences.houseOf("p1;k100001;p1;"), -2003);
        s.due("no sixth", Sentences.houseOf("p1;p1;p1;p1;p1;p1;"), -2015);
        FoughtFromMemory x = Sentences.told("p1;p1;p1;p1;");
        s.due("two more than four", Checks.tell(x, "p1;p1;"), -2003);
        s.due("neither came", x.count(0), 4);
        s.due("one of another telling", Checks.tell(x, "k300001;p1;k400001;"), 3);
        Sentences.pass(x, 960);
        s.due("960 and 40", Checks.tell(x, "n40;"), -2000);
        s.due("960 and 39 and 1", Checks.tell(x, "n39;n01;"), -2004);
        s.due("960 still", x.count(1), 960);
        s.due("960 and 39", Checks.tell(x, "n39;"), 1);
        s.due("999", x.count(1), 999);
    }

    private void numbersOutOfRange() {
        // Numbers of two digits, all of them: just these are in range.
        for (int number = 0; number <= 99; number++) {
            String two = (number < 10 ? "0" : "") + number;
            boolean room = number <= 24;
            s.due("r " + two, Sentences.houseOf("rt" + two + "0;"), room ? 1 : -2000);
            s.due("v from " + two, Sentences.houseOf("vt" + two + "240;"), room ? 1 : -2000);
            s.due("v to " + two, Sentences.houseOf("vt00" + two + "0;"), room ? 1 : -2000);
            s.due("k from " + two, Sentences.houseOf("p1;k0" + two + "240;"), room ? 2 : -2003);
            s.due("k to " + two, Sentences.houseOf("p1;k000" + two + "0;"), room ? 2 : -2003);
            s.due("n " + two, Sentences.houseOf("n" + two + ";"), number >= 1 && number <= 60 ? 1 : -2000);
        }
    }

    private void allOrNothing() {
        s.says("Without FAULT all of it comes, with one nothing.");
        String fine = "rl009;p1;k000249;n05;";
        FoughtFromMemory x = Sentences.told(fine);
        s.due("its thing", x.turn(0, 1, 9), 19);
        s.due("its person", x.person(0, -1), 1);
        s.due("what he knows after the nights", x.person(0, 24), 4);
        s.due("its nights", x.count(1), 5);
        FoughtFromMemory y = new FoughtFromMemory();
        s.due("a fault of kind 2 at the end", Checks.tell(y, fine + "p0;"), -2021);
        s.due("a fault of kind 1 at the end", Checks.tell(y, fine + "p"), -1022);
        s.due("no thing", y.room(0, 0) + y.room(0, 1), 0);
        s.due("nobody", y.count(0), 0);
        s.due("no night", y.count(1), 0);
        FoughtFromMemory z = Sentences.told("p9;k000245;");
        s.due("a fault that had changed people", Checks.tell(z, "k000249;n09;n00;"), -2012);
        s.due("knows as before", z.count(5), 125);
        s.due("the same night", z.count(1), 0);
        s.due("a person that did not come", Checks.tell(z, "p1;k100009;k200009;"), -2011);
        s.due("is not there", z.person(1, -1), -1);
        s.due("nor is what he knew", Checks.tell(z, "p1;") + z.person(1, 0), 1);
    }
}
