/** Terms, part II: what is asked about fires. */
final class QuestionSentences {
    /** A lone thing in room 0 with a linen worth 10 beside it: it burns in minute 1 unless it is said then. */
    private static final String LINEN = "vw00240;rt000;rl019;";
    /** Likewise with a door worth 9, which burns in minute 4. */
    private static final String DOOR = "vw00240;rt000;rd019;";

    private final Sentences s;

    QuestionSentences(Sentences s) {
        this.s = s;
    }

    void look() {
        s.in("Terms");
        ofAFire();
        burns();
        said();
        talks();
        alone();
        bestSpeaker();
        worstRoom();
        show();
        mayWait();
        leftOut();
        enough();
        wall();
        captain();
        unlike();
        sure();
        slip();
        slipLater();
        whatItWas();
        figures();
        row();
        judged();
        lots();
        draw();
    }

    private void ofAFire() {
        s.says("==== II. Of a FIRE (in a ROOM, by a first speaker 0 .., 0 without PEOPLE): how many ROOMS BURN in all, "
                + "WORTH of these, the MINUTE in which the last one BURNS;");
        FoughtFromMemory x = new FoughtFromMemory();
        s.due("all of them", x.fire(0, 0, 0), 25);
        s.due("their worth", x.fire(0, 0, 1), 25);
        s.due("the farthest corner last", x.fire(0, 0, 2), 16);
        s.due("no speaker 1 without people", x.fire(0, 1, 0), -1);
        s.due("no speaker -1 without people", x.fire(0, -1, 0), -1);
        FoughtFromMemory y = Sentences.told("vw00240;rp129;");
        s.due("one alone", y.fire(12, 0, 0), 1);
        s.due("its worth", y.fire(12, 0, 1), 30);
        s.due("in minute 0", y.fire(12, 0, 2), 0);
        s.due("a wall counts, too, where it begins", y.fire(0, 0, 0), 1);
        s.due("but is worth nothing", y.fire(0, 0, 1), 0);
        s.due("the greatest worth of all", Sentences.told("vp00249;").fire(24, 0, 1), 750);
        FoughtFromMemory z = Sentences.told(LINEN + "p1;p1;p1;p1;p1;k401011;");
        s.due("the first of five", z.fire(0, 0, 0), 2);
        s.due("the last of five", z.fire(0, 4, 0), 1);
        s.due("no sixth", z.fire(0, 5, 0), -1);
    }

    private void burns() {
        s.says("the MINUTE in which a ROOM BURNS (-9 never);");
        FoughtFromMemory x = Sentences.told(LINEN + "p1;p1;k101011;");
        s.due("where it begins", x.burns(0, 0, 0), 0);
        s.due("beside it", x.burns(0, 0, 1), 1);
        s.due("said in time", x.burns(0, 1, 1), -9);
        s.due("a wall", x.burns(0, 0, 5), -9);
        s.due("the last room, far off", x.burns(0, 0, 24), -9);
        FoughtFromMemory y = Sentences.told("vd00240;");
        s.due("late", y.burns(0, 0, 24), 32);
        y.turn(1, 4, 0);
        y.turn(5, 4, 0);
        s.due("never in a later fire that stays alone", y.burns(0, 0, 24), -9);
        s.due("nor its last minute", y.fire(0, 0, 2), 0);
    }

    private void said() {
        s.says("in which it is SAID (-9), by whom;");
        FoughtFromMemory x = Sentences.told(LINEN + "p1;p1;k101011;");
        s.due("said", x.said(0, 1, 1, 0), 1);
        s.due("by whom", x.said(0, 1, 1, 1), 1);
        s.due("burnt before", x.said(0, 0, 1, 0), -9);
        s.due("by nobody", x.said(0, 0, 1, 1), -9);
        s.due("where it begins", x.said(0, 1, 0, 0), -9);
        s.due("by nobody", x.said(0, 1, 0, 1), -9);
        s.due("by person 0", Sentences.told(LINEN + "p1;k001011;").said(0, 0, 1, 1), 0);
        FoughtFromMemory y = Sentences.told("p9;k000249;");
        s.due("in the eighth minute", y.said(12, 0, 24, 0), 8);
        y.turn(1, 4, 0);
        y.turn(5, 4, 0);
        s.due("not in a later fire that stays alone", y.said(0, 0, 24, 0), -9);
        s.due("nor by anybody", y.said(0, 0, 24, 1), -9);
        s.due("nobody says anything in it", y.talker(0, 0), -9);
    }

    private void talks() {
        s.says("who SAYS most, of several the least; -9.");
        FoughtFromMemory x = Sentences.told(DOOR + "rd059;p1;p1;p1;");
        s.due("nobody says anything", x.talker(0, 0), -9);
        x.visit(2, 5, 1);
        s.due("the last one says one", x.talker(0, 0), 2);
        x.visit(1, 1, 1);
        s.due("two say one each: the least", x.talker(0, 0), 1);
        s.due("the least also where the other one begins", x.talker(0, 2), 1);
        FoughtFromMemory y = Sentences.told("p1;p1;k000249;k100249;");
        y.turn(24, 4, 0);
        s.due("seven minutes: who begins says four", y.talker(12, 1), 1);
        s.due("of those seven", y.talker(12, 0), 0);
        y.turn(24, 0, 0);
        s.due("eight minutes: four each, the least", y.talker(12, 1), 0);
        s.due("without people", new FoughtFromMemory().talker(0, 0), -9);
    }

    private void alone() {
        s.says("ALONE: WORTH that BURNS with nobody speaking.");
        FoughtFromMemory x = Sentences.told(LINEN + "p1;k001019;");
        s.due("with somebody", x.fire(0, 0, 1), 1);
        s.due("with nobody", x.alone(0), 11);
        s.due("a wall alone", x.alone(24), 0);
        s.due("without people", new FoughtFromMemory().alone(24), 25);
    }

    private void bestSpeaker() {
        s.says("BEST SPEAKER: the first one by whom WORTH that BURNS is least, of several the least; -9 nobody.");
        s.due("nobody", new FoughtFromMemory().bestSpeaker(0), -9);
        FoughtFromMemory x = Sentences.told(LINEN + "p1;");
        s.due("one", x.bestSpeaker(0), 0);
        Checks.tell(x, "p1;p1;p1;p1;");
        s.due("five alike", x.bestSpeaker(0), 0);
        x.visit(4, 1, 1);
        s.due("the last of five", x.bestSpeaker(0), 4);
        x.visit(3, 1, 1);
        s.due("two alike: the least", x.bestSpeaker(0), 3);
        x.visit(0, 1, 1);
        s.due("the first", x.bestSpeaker(0), 0);
    }

    private void worstRoom() {
        s.says("WORST ROOM: the FIRE (by speaker 0) that BURNS most WORTH, of several the least.");
        s.due("all alike", new FoughtFromMemory().worstRoom(), 0);
        s.due("walls alone, worth nothing", Sentences.told("vw00240;").worstRoom(), 0);
        s.due("beside it, since a wall lights it", Sentences.told("vw00240;rl249;").worstRoom(), 19);
        s.due("the last room", Sentences.told("vw00240;rl249;p1;p1;k024249;").worstRoom(), 24);
        s.due("by speaker 0, not by 1", Sentences.told("vw00240;rl249;p1;p1;k124249;").worstRoom(), 19);
        s.due("more by 1", Sentences.told("vw00240;rt004;rt245;p1;k000249;").worstRoom(), 24);
        s.due("alike: the least", Sentences.told("vw00240;rt005;rt245;p1;k000249;").worstRoom(), 0);
    }

    private void show() {
        s.says("SHOW: which ROOM, shown to one (he KNOWS it 9), makes WORTH that BURNS in a FIRE (speaker 0) least, "
                + "less than now; of several the least; -9.");
        FoughtFromMemory x = Sentences.told("vw00240;rt010;rt003;rt023;p1;p1;");
        s.due("the first room", x.show(1, 0), 0);
        s.due("also to the second person, in minute 2", x.show(1, 1), 0);
        x.turn(2, 0, 4);
        s.due("more worth by 1", x.show(1, 0), 2);
        x.turn(2, 3, 0);
        s.due("a piano needs 4", x.show(1, 0), 2);
        x.turn(2, 1, 9);
        s.due("linen in minute 1, by speaker 0", x.show(1, 0), 2);
        s.due("too late for the second one", x.show(1, 1), 0);
        s.due("nothing is learnt", x.count(5), 0);
        s.due("one room, not one and another", Sentences.told("vw00240;rt010;rt003;rt023;p1;").show(1, 0), 0);
        FoughtFromMemory y = Sentences.told("vw00240;rt230;rp249;p1;k024243;");
        s.due("the last room", y.show(23, 0), 24);
        y.visit(0, 24, 4);
        s.due("known well enough", y.show(23, 0), -9);
        s.due("known as before", y.person(0, 24), 4);
        s.due("a fire that stays alone", y.show(0, 0), -9);
        s.due("all burns worth 0", Sentences.told("vw00240;rd010;p1;").show(0, 0), -9);
    }

    private void mayWait() {
        s.says("WAIT: how many NIGHTS (0 .. 99) can go by till more WORTH BURNS in a FIRE (speaker 0) than now: the "
                + "first such; -9.");
        FoughtFromMemory x = Sentences.told(LINEN + "p1;k001011;");
        s.due("the very next", x.mayWait(0), 1);
        s.due("no night has gone by", x.count(1), 0);
        s.due("nothing is forgotten", x.person(0, 1), 1);
        x.nights(1);
        s.due("all burns already", x.mayWait(0), -9);
        FoughtFromMemory y = Sentences.told(LINEN + "p9;k001019;");
        s.due("nine times nine", y.mayWait(0), 81);
        y.nights(8);
        s.due("eight less", y.mayWait(0), 73);
        y.nights(1);
        s.due("one less", y.mayWait(0), 72);
        y.visit(0, 1, 9);
        s.due("learnt again", y.mayWait(0), 81);
        y.turn(1, 5, 0);
        s.due("worth nothing", y.mayWait(0), -9);
        s.due("nothing is beside it", y.mayWait(24), -9);
        s.due("without people", new FoughtFromMemory().mayWait(0), -9);
        s.due("by speaker 0 alone", Sentences.told(LINEN + "p5;p1;k001019;k101019;").mayWait(0), 45);
        s.due("a piano needs 4: six less of 9", Sentences.told("vw00240;rt000;rp010;p1;k001019;").mayWait(0), 6);
    }

    private void leftOut() {
        s.says("LEFT OUT: the one without whom (never speaking; his turn is skipped, the others round) most WORTH "
                + "BURNS, of several the least; -9 nobody.");
        s.due("nobody", new FoughtFromMemory().leftOut(0), -9);
        s.due("one who knows nothing", Sentences.told(LINEN + "p1;").leftOut(0), 0);
        s.due("five who know nothing", Sentences.told(LINEN + "p1;p1;p1;p1;p1;").leftOut(0), 0);
        s.due("nothing that is worth anything burns", Sentences.told("vw00240;p1;p1;").leftOut(12), 0);
        s.due("the turn of 0 is skipped", Sentences.told(LINEN + "p1;p1;k101011;").leftOut(0), 1);
        // With all five the last one comes in minute 5, a minute late; without one of the others just in time.
        s.due("the last of five", Sentences.told(DOOR + "p1;p1;p1;p1;p1;k401011;").leftOut(0), 4);
        // Each of 0 and 1 is missed alike.
        s.due("alike: the least", Sentences.told(DOOR + "rd059;p1;p1;p1;k001011;k105051;").leftOut(0), 0);
        s.due("worth more by 1", Sentences.told(DOOR + "rd058;p1;p1;p1;k105051;k201011;").leftOut(0), 2);
        // Without 1 it is 0 who begins, so the linen is said in time and the door alone burns.
        s.due("the others from 0 on", Sentences.told(LINEN + "rd055;p1;p1;p1;k001011;k105051;").leftOut(0), 0);
    }

    private void enough() {
        s.says("ENOUGH: the fewest PEOPLE (bits, of several the least) who alone, speaking round by numbers, let no "
                + "more BURN than all (speaker 0).");
        s.due("nobody at all", new FoughtFromMemory().enough(0), 0);
        s.due("five who know nothing", Sentences.told(LINEN + "p1;p1;p1;p1;p1;").enough(0), 0);
        s.due("one, who is late among all", Sentences.told(LINEN + "p1;p1;k101011;").enough(0), 0);
        s.due("the first", Sentences.told(LINEN + "p1;k001011;").enough(0), 1);
        s.due("the last of five", Sentences.told("vw00240;rt000;rd010;rs020;p1;p1;p1;p1;p1;k402029;").enough(0), 16);
        s.due("two alike: the least", Sentences.told(DOOR + "p1;p1;k001011;k101011;").enough(0), 1);
        String doors = DOOR + "rd059;p1;p1;p1;";
        s.due("both", Sentences.told(doors + "k001011;k105051;").enough(0), 3);
        s.due("by numbers: 0 before 1", Sentences.told(LINEN + "rt059;p1;p1;p1;k001011;k105051;").enough(0), 3);
        s.due("one rather than two that are less", Sentences.told(doors + "k001011;k105051;k200241;").enough(0), 4);
        s.due("all five", Sentences.told("vw00240;rt120;rd071;rd111;rd131;rt170;rd221;rd161;" + "p1;".repeat(5),
                "k007071;k111111;k213131;k322221;k416161;").enough(12), 31);
    }

    private void wall() {
        s.says("WALL: the ROOM (not the FIRE's) that, being a WALL, makes WORTH that BURNS least, less than now "
                + "(speaker 0), of several the least; -9.");
        FoughtFromMemory x = new FoughtFromMemory();
        s.due("all alike, but for the fire's own", x.wall(0), 1);
        s.due("all alike", x.wall(24), 0);
        s.due("nothing is built", x.count(3), 0);
        FoughtFromMemory y = Sentences.told("vw00240;rp009;");
        s.due("not the fire's own", y.wall(0), -9);
        s.due("a wall alone", y.wall(24), -9);
        FoughtFromMemory z = Sentences.told("vw00240;rp239;rt240;p1;p1;");
        s.due("the last room", z.wall(23), 24);
        z.turn(24, 5, 0);
        s.due("never less: it is worth nothing", z.wall(23), -9);
        z.turn(24, 1, 9);
        z.visit(1, 24, 1);
        s.due("said too late by speaker 0", z.wall(23), 24);
        z.visit(0, 24, 1);
        s.due("said in time", z.wall(23), -9);
        s.due("the one in front saves both", Sentences.told("vw00240;rt000;rt010;rp020;").wall(0), 1);
        s.due("the one worth more", Sentences.told("vw00240;rt110;rt120;rt131;").wall(12), 13);
        s.due("alike: the least", Sentences.told("vw00240;rt111;rt120;rt131;").wall(12), 11);
    }

    private void captain() {
        s.says("CAPTAIN: the fire begins in one of two told ROOMS, he chooses the first speaker, not knowing which: "
                + "the speaker by whom the greater WORTH that BURNS is least, of several the least; -9 nobody; that "
                + "WORTH.");
        FoughtFromMemory x = new FoughtFromMemory();
        s.due("nobody", x.captain(0, 24, 0), -9);
        s.due("no worth then", x.captain(0, 24, 1), -9);
        // By speaker 0: 6 and 6; by speaker 1: 1 and 9. Together they would be 12 and 10.
        FoughtFromMemory y = Sentences.told("vw00240;rt000;rl014;rt205;rl212;p1;p1;", "k101011;k021211;");
        s.due("the greater is least", y.captain(0, 20, 0), 0);
        s.due("that worth", y.captain(0, 20, 1), 6);
        s.due("the other way round", y.captain(20, 0, 0), 0);
        s.due("that worth", y.captain(20, 0, 1), 6);
        y.turn(1, 1, 7);
        s.due("alike: the least", y.captain(0, 20, 0), 0);
        s.due("nine both", y.captain(0, 20, 1), 9);
        y.turn(1, 1, 8);
        s.due("ten and nine", y.captain(0, 20, 0), 1);
        s.due("nine", y.captain(20, 0, 1), 9);
        s.due("the last of five", Sentences.told(LINEN + "p1;p1;p1;p1;p1;k401011;").captain(0, 24, 0), 4);
        s.due("worth 0", Sentences.told("vw00240;p1;").captain(23, 24, 1), 0);
    }

    private void unlike() {
        s.says("UNLIKE: ROOMS that one KNOWS well enough and another one not: how many; the first; -9.");
        FoughtFromMemory x = Sentences.told("p1;p1;");
        s.due("none", x.unlike(0, 1, 0), 0);
        s.due("no first", x.unlike(0, 1, 1), -9);
        x.visit(0, 24, 1);
        s.due("one", x.unlike(0, 1, 0), 1);
        s.due("the last room", x.unlike(0, 1, 1), 24);
        s.due("none the other way", x.unlike(1, 0, 0), 0);
        s.due("no first the other way", x.unlike(1, 0, 1), -9);
        x.visit(1, 24, 1);
        s.due("both", x.unlike(0, 1, 0), 0);
        x.turn(24, 2, 0);
        x.visit(0, 24, 2);
        s.due("just well enough, and 1 too little", x.unlike(0, 1, 1), 24);
        Checks.tell(x, "k000249;k100240;");
        s.due("all", x.unlike(0, 1, 0), 25);
        s.due("the first room", x.unlike(0, 1, 1), 0);
        x.visit(1, 0, 9);
        s.due("all but one", x.unlike(0, 1, 0), 24);
        s.due("the next one", x.unlike(0, 1, 1), 1);
    }

    private void sure() {
        s.says("SURE: ROOMS that all PEOPLE KNOW well enough (0 without PEOPLE): how many; NOBODY'S: how many that "
                + "nobody does.");
        FoughtFromMemory x = new FoughtFromMemory();
        s.due("sure without people", x.sure(0), 0);
        s.due("nobody's without people", x.sure(1), 25);
        Checks.tell(x, "p1;p1;k000249;");
        s.due("not all know them", x.sure(0), 0);
        s.due("somebody does", x.sure(1), 0);
        Checks.tell(x, "k100249;");
        s.due("all are sure", x.sure(0), 25);
        x.turn(24, 3, 0);
        x.visit(1, 24, 4);
        s.due("just well enough", x.sure(0), 25);
        x.visit(1, 24, 3);
        s.due("1 too little", x.sure(0), 24);
        s.due("the other one does", x.sure(1), 0);
        x.visit(0, 24, 3);
        s.due("nobody does", x.sure(1), 1);
    }

    private void fraction(FoughtFromMemory x, int[] asked, long above, long below) {
        String call = "slip(" + asked[0] + ", " + asked[1] + ", " + asked[2] + ", " + asked[3] + ", ";
        s.due(call + "0)", x.slip(asked[0], asked[1], asked[2], asked[3], 0), above);
        s.due(call + "1)", x.slip(asked[0], asked[1], asked[2], asked[3], 1), below);
    }

    private static int[] asked(int room, int n, int t, int v) {
        return new int[] {room, n, t, v};
    }

    private void slip() {
        s.says("SLIP: each who SAYS is silent in a MINUTE with odds 1 in t (2 .. 20), by himself, in the first n "
                + "MINUTES (0 .. 7) alone: how likely WORTH that BURNS is v (0 .. 999) or less (speaker 0): a "
                + "fraction.");
        // Silent in minute 1, 11 burns, else 1.
        FoughtFromMemory x = Sentences.told(LINEN + "p1;p1;k001011;");
        fraction(x, asked(0, 1, 2, 0), 0, 1);
        fraction(x, asked(0, 1, 2, 1), 1, 2);
        fraction(x, asked(0, 1, 2, 10), 1, 2);
        fraction(x, asked(0, 1, 2, 11), 1, 1);
        fraction(x, asked(0, 1, 2, 999), 1, 1);
        fraction(x, asked(0, 0, 2, 0), 0, 1);
        fraction(x, asked(0, 0, 2, 1), 1, 1);
        fraction(x, asked(0, 1, 20, 1), 19, 20);
        fraction(x, asked(0, 7, 2, 1), 1, 2);
        fraction(x, asked(0, 7, 20, 1), 19, 20);
        fraction(x, asked(0, 7, 20, 0), 0, 1);
        fraction(x, asked(24, 7, 20, 0), 1, 1);
        // By speaker 0, who knows nothing now: the linen burns in any case.
        x.visit(0, 1, 0);
        x.visit(1, 1, 9);
        fraction(x, asked(0, 7, 20, 10), 0, 1);
        fraction(new FoughtFromMemory(), asked(0, 7, 20, 24), 0, 1);
        fraction(new FoughtFromMemory(), asked(0, 7, 20, 25), 1, 1);
        fraction(Sentences.told("vp00249;"), asked(0, 0, 2, 749), 0, 1);
        fraction(Sentences.told("vp00249;"), asked(0, 0, 2, 750), 1, 1);
    }

    private void slipLater() {
        // Silent in all of the minutes 1 to 4, 10 burns, else 1.
        FoughtFromMemory x = Sentences.told(DOOR + "p1;k001011;");
        fraction(x, asked(0, 3, 2, 1), 1, 1);
        fraction(x, asked(0, 4, 2, 1), 15, 16);
        fraction(x, asked(0, 5, 2, 1), 15, 16);
        fraction(x, asked(0, 7, 3, 1), 80, 81);
        fraction(x, asked(0, 7, 20, 1), 159999, 160000);
        // A room that burns in minute 7 needs seven silent ones, one that burns in minute 8 is always said in time.
        FoughtFromMemory seventh = Sentences.told("vw00240;rt000;rd010;rs020;p1;k002029;");
        fraction(seventh, asked(0, 6, 20, 1), 1, 1);
        fraction(seventh, asked(0, 7, 2, 1), 127, 128);
        fraction(seventh, asked(0, 7, 20, 1), 1279999999, 1280000000);
        FoughtFromMemory eighth = Sentences.told("vw00240;rt000;rd010;rd029;p1;k002029;");
        fraction(eighth, asked(0, 7, 2, 1), 1, 1);
        // Two people, each in his own minute: 0 in 1 and 3, 1 in 2; all three silent, the stair burns.
        FoughtFromMemory two = Sentences.told("vw00240;rt000;rs010;p1;p1;k001019;k101019;");
        fraction(two, asked(0, 7, 4, 1), 63, 64);
    }

    private static void tellRow(FoughtFromMemory x, int... numbers) {
        x.clear();
        for (int number : numbers) {
            x.row(number);
        }
    }

    private void whatItWas() {
        s.says("WHAT IT WAS: a ROW tells MINUTES in which ROOMS 0, 1, .. BURN (99 never; as many as there are told) in "
                + "a FIRE (speaker 0): KINDS (bits) of a ROOM by which all of it is so;");
        FoughtFromMemory x = Sentences.told(LINEN);
        s.due("none told", x.whatWas(0, 1, 0), 63);
        int[] kinds = {0, 2, 1, 4 + 8, 32, 0};
        for (int minute = 0; minute < kinds.length; minute++) {
            tellRow(x, 0, minute);
            s.due("burnt in minute " + minute, x.whatWas(0, 1, 0), kinds[minute]);
        }
        tellRow(x, 0, 99);
        s.due("never", x.whatWas(0, 1, 0), 16);
        tellRow(x, 0);
        s.due("not told", x.whatWas(0, 1, 0), 63);
        tellRow(x, 1);
        s.due("the fire's own room burns in minute 0", x.whatWas(0, 1, 0), 0);
        int[] full = new int[25];
        java.util.Arrays.fill(full, 99);
        full[0] = 0;
        full[1] = 3;
        tellRow(x, full);
        s.due("all 25 told", x.whatWas(0, 1, 0), 12);
        s.due("of the last room", x.whatWas(0, 24, 0), 0);
        full[1] = 1;
        tellRow(x, full);
        s.due("of the last room: any", x.whatWas(0, 24, 0), 63);
        full[24] = 98;
        tellRow(x, full);
        s.due("the 25th is not so", x.whatWas(0, 1, 0), 0);
        s.due("the house stays", x.room(1, 0), 1);
    }

    private void figures() {
        s.says("FIGURES (bits 0 .. 9).");
        // Linen 11 and 13 beside the fire in 12: the one worth more is said, of two alike 11; the other one burns.
        FoughtFromMemory x = Sentences.told("vw00240;rt120;rl118;rl138;p1;k000249;");
        int[] leftBurns = {99, 99, 99, 99, 99, 99, 99, 99, 99, 99, 99, 1};
        s.due("none told", x.whatWas(12, 13, 1), 1023);
        tellRow(x, leftBurns);
        s.due("9 alone", x.whatWas(12, 13, 1), 512);
        s.due("as much as 8 is said", x.whatWas(12, 11, 1), 255);
        x.turn(13, 1, 1);
        s.due("0 alone", x.whatWas(12, 11, 1), 1);
        x.turn(13, 1, 0);
        s.due("none", x.whatWas(12, 11, 1), 0);
        s.due("the house stays", x.room(11, 1), 8);
    }

    private void row() {
        s.says("A ROW of numbers (0 .. 99; 25 at most):");
        FoughtFromMemory x = new FoughtFromMemory();
        s.aNumber("row", 0, 99, x::row);
        x.clear();
        for (int i = 1; i <= 25; i++) {
            s.due("number " + i, x.row(99), i);
        }
        s.due("no 26th", x.row(0), -6);
        s.due("25 still", x.count(6), 25);
    }

    private void judged() {
        s.says("JUDGED: ROOMS that are SAID in MINUTES 1, 2, .. of a FIRE (speaker 0; 99 none, behind its end, too): "
                + "the first that is not so; -9.");
        FoughtFromMemory x = Sentences.told("p9;k000249;");
        int[] rooms = new int[25];
        java.util.Arrays.fill(rooms, 99);
        System.arraycopy(new int[] {7, 11, 8, 14, 15, 19, 20, 24}, 0, rooms, 0, 8);
        tellRow(x, rooms);
        s.due("all 25 so", x.judge(12), -9);
        for (int place : new int[] {0, 7, 8, 24}) {
            int was = rooms[place];
            rooms[place] = 0;
            tellRow(x, rooms);
            s.due("not so at " + place, x.judge(12), place);
            rooms[place] = was;
        }
        tellRow(x, 7, 0, 0);
        s.due("the first of two", x.judge(12), 1);
        tellRow(x);
        s.due("none told", x.judge(12), -9);
        tellRow(x, 7, 99);
        s.due("none told where one is said", x.judge(12), 1);
        FoughtFromMemory y = Sentences.told("p9;p9;k100249;");
        tellRow(y, 99, 7, 99, 6);
        s.due("none where the speaker has none", y.judge(12), -9);
        tellRow(y, 7);
        s.due("by speaker 0", y.judge(12), 0);
        FoughtFromMemory z = new FoughtFromMemory();
        tellRow(z, 99, 99);
        s.due("without people", z.judge(0), -9);
    }

    private void lots() {
        s.says("LOTS with a seed z: n nights (1 .. 20), a FIRE in a ROOM by a DRAW below 25, the first speaker a DRAW "
                + "below as many as there are (none of that without PEOPLE): WORTH that BURNS of all together; how "
                + "many ROOMS.");
        // Seed 0 without people: rooms 13 2 11 14 24 15 14 7 19 10 2 14 8 24 8 1 4 17 11 0; 8 and 14 light 13, too.
        FoughtFromMemory x = Sentences.told("vw00240;rt138;");
        int[] worth = {9, 9, 9, 18, 18, 18, 27, 27, 27, 27, 27, 36, 45, 45, 54, 54, 54, 54, 54, 54};
        int[] rooms = {1, 2, 3, 5, 6, 7, 9, 10, 11, 12, 13, 15, 17, 18, 20, 21, 22, 23, 24, 25};
        for (int n = 1; n <= 20; n++) {
            s.due("worth of " + n, x.lots(n, 0, 0), worth[n - 1]);
            s.due("rooms of " + n, x.lots(n, 0, 1), rooms[n - 1]);
        }
        s.aNumber("lots", 1, 20, n -> x.lots(n, 0, 0));
        // Seed 0 with five: room 13 first, by speaker 2.
        for (int knowing = 0; knowing < 5; knowing++) {
            FoughtFromMemory y = Sentences.told("vw00240;rl149;p1;p1;p1;p1;p1;k" + knowing + "14141;");
            s.due("known to " + knowing, y.lots(1, 0, 0), knowing == 2 ? 0 : 10);
        }
        FoughtFromMemory z = Sentences.told("p1;k000241;");
        int before = z.count(5);
        z.lots(20, 5, 0);
        s.due("nothing is forgotten", z.count(5), before);
        s.due("the seed is not kept", x.lots(20, 0, 0), 54);
    }

    private void draw() {
        s.says("A DRAW below m: z becomes z times 1664525 and 1013904223 (an int); (z without its sign's bit by 256, "
                + "cut) modulo m.");
        // Doors alone and one who knows all: only the room where it begins burns, so its figure is the answer.
        FoughtFromMemory x = Sentences.told("p9;k000249;");
        for (int room = 0; room < 25; room++) {
            x.turn(room, 5, room % 10);
        }
        int[] seeds = {0, 1, 7, -1, Sentences.BIG, Sentences.SMALL};
        int[][] rooms = {{13, 11, 24}, {15, 19, 6}, {2, 21, 7}, {11, 21, 8}, {11, 21, 8}, {13, 11, 24}};
        for (int i = 0; i < seeds.length; i++) {
            int sum = 0;
            for (int n = 1; n <= 3; n++) {
                sum += rooms[i][n - 1] % 10;
                s.due("seed " + seeds[i] + ", " + n + " draws", x.lots(n, seeds[i], 0), sum);
                s.due("a room each", x.lots(n, seeds[i], 1), n);
            }
        }
    }
}
