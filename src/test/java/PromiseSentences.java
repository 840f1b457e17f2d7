/** Promises 1 to 33, each sentence of them. */
final class PromiseSentences {
    /** Room 1 beside the fire in room 0 is a linen worth 10, all else wall; person 1 alone knows it. */
    private static final String LINEN = "vw00240;rt000;rl019;p3;p2;k101019;";

    private final Sentences s;

    PromiseSentences(Sentences s) {
        this.s = s;
    }

    void look() {
        newObject();
        letter();
        house();
        room();
        person();
        turn();
        sharp();
        visit();
        nights();
        fire();
        burns();
        said();
        talker();
        alone();
        bestSpeaker();
        worstRoom();
        show();
        mayWait();
        leftOut();
        enough();
        wall();
        captain();
        unlike();
        sure();
        slip();
        slipRefused();
        whatWas();
        row();
        judge();
        clear();
        lots();
        image();
        on();
        count();
    }

    private static FoughtFromMemory linen() {
        return Sentences.told(LINEN);
    }

    private void newObject() {
        s.in("Promise 1");
        s.says("Rooms of THINGS alone, nobody, NIGHT 0.");
        FoughtFromMemory x = new FoughtFromMemory();
        for (int room = 0; room < 25; room++) {
            s.due("a thing of figure 0", x.turn(room, 0, 0), 0);
        }
        s.due("no person 0", x.person(0, -1), -1);
        s.due("nobody", x.count(0), 0);
        s.due("night", x.count(1), 0);
        s.due("no row", x.count(6), 0);
        s.due("no letters", x.count(7), 0);
        s.due("one refusal, by this test", x.count(11), 1);
        for (int what = 12; what <= 16; what++) {
            s.due("no refusal", x.count(what), 0);
        }
        linen();
        s.due("objects share nothing", new FoughtFromMemory().count(0), 0);
    }

    private void letter() {
        s.in("Promise 2");
        s.says("A letter (0 .. 255) comes: how many there are.");
        FoughtFromMemory x = new FoughtFromMemory();
        s.due("letter 0", x.letter(0), 1);
        s.due("letter 255", x.letter(255), 2);
        s.due("there are", x.count(7), 2);
        for (int i = 3; i <= 96; i++) {
            s.due("more", x.letter(i), i);
        }
        s.says("-4; -6 (255; 96, too).");
        s.due("full", x.letter(0), -6);
        s.due("full and above", x.letter(256), -6);
        s.due("full, but below", x.letter(-1), -4);
        x.house();
        s.aNumber("letter", 0, 255, x::letter);
        s.due("two were taken", x.count(7), 2);
    }

    private void house() {
        s.in("Promise 3");
        s.says("The letters become a HOUSE, and are no more: how many STATEMENTS; the FAULT (nothing is counted).");
        FoughtFromMemory x = new FoughtFromMemory();
        s.due("one", Checks.tell(x, "p1;"), 1);
        s.due("no letters", x.count(7), 0);
        s.due("the most", Checks.tell(x, "n01;".repeat(24)), 24);
        s.due("the most, short ones", Checks.tell(x, "p1;p2;p3;p4;"), 4);
        s.due("kind 1", Checks.tell(x, "p"), -1001);
        s.due("no letters", x.count(7), 0);
        s.due("kind 2", Checks.tell(x, "p1;"), -2000);
        s.due("no letters", x.count(7), 0);
        s.due("the first letter again", x.letter('n'), 1);
        for (int what = 11; what <= 16; what++) {
            s.due("nothing is counted", x.count(what), 0);
        }
    }

    private void room() {
        s.in("Promise 4");
        s.says("Of a ROOM: 0 KIND (0 t, 1 l, 2 s, 3 p, 4 w, 5 d), 1 FIGURE, 2 NEEDS, 3 CATCHES (-9 never), 4 WORTH.");
        FoughtFromMemory x = Sentences.told("rt001;rl012;rs023;rp034;rw045;rd246;");
        int[][] due = {{0, 0, 1, 1, 2, 2}, {1, 1, 2, 1, 1, 3}, {2, 2, 3, 2, 3, 9}, {3, 3, 4, 4, 3, 20},
            {4, 4, 5, 1, -9, 0}, {24, 5, 6, 1, 4, 6}};
        for (int[] of : due) {
            for (int what = 0; what <= 4; what++) {
                s.due("room(" + of[0] + ", " + what + ")", x.room(of[0], what), of[1 + what]);
            }
        }
        s.says("-1; -2.");
        s.aRoom("room", room -> x.room(room, 0));
        s.aWhat("room", 4, what -> x.room(24, what));
    }

    private void person() {
        s.in("Promise 5");
        s.says("SHARP (room -1), how well he KNOWS a ROOM.");
        FoughtFromMemory x = Sentences.told("p1;p9;k100003;k124248;");
        s.due("sharp", x.person(0, -1), 1);
        s.due("sharp", x.person(1, -1), 9);
        s.due("the first room", x.person(1, 0), 3);
        s.due("the last room", x.person(1, 24), 8);
        s.due("not known", x.person(0, 24), 0);
        s.says("-1 either.");
        s.aRoomOrLess("person", room -> x.person(1, room));
        s.aPerson("person", 2, person -> x.person(person, -1));
        s.aPerson("person", 2, person -> x.person(person, 24));
    }

    private void turn() {
        s.in("Promise 6");
        s.says("KIND, FIGURE become others: 10 times the KIND and the FIGURE it had.");
        FoughtFromMemory x = new FoughtFromMemory();
        s.due("had the least", x.turn(24, 5, 9), 0);
        s.due("had the most", x.turn(24, 5, 9), 59);
        s.due("is the same", x.turn(24, 0, 9), 59);
        s.due("kind 0", x.turn(24, 1, 0), 9);
        s.due("figure 0", x.turn(24, 0, 0), 10);
        s.says("-1; -2; -4; -6 9.");
        s.aRoom("turn", room -> x.turn(room, 0, 0));
        s.aWhat("turn", 5, kind -> x.turn(24, kind, 0));
        s.aNumber("turn", 0, 9, figure -> x.turn(24, 5, figure));
        s.due("the last that was taken", x.turn(24, 0, 0), 59);
    }

    private void sharp() {
        s.in("Promise 7");
        s.says("SHARP becomes v: what it was.");
        FoughtFromMemory x = Sentences.told("p5;p5;k100249;");
        s.due("was as told", x.sharp(1, 9), 5);
        s.due("was the most", x.sharp(1, 1), 9);
        s.due("was the least", x.sharp(1, 1), 1);
        s.due("the other one is as before", x.person(0, -1), 5);
        s.due("he forgets each night now", x.nights(1) + x.person(1, 0), 8);
        s.says("-1; -4 below 1; -6 9.");
        s.aPerson("sharp", 2, person -> x.sharp(person, 5));
        s.aNumber("sharp", 1, 9, v -> x.sharp(1, v));
        s.due("the last that was taken", x.person(1, -1), 9);
    }

    private void visit() {
        s.in("Promise 8");
        s.says("He KNOWS a ROOM so well: what it was.");
        FoughtFromMemory x = Sentences.told("p1;p1;");
        s.due("was nothing", x.visit(1, 24, 9), 0);
        s.due("was the most", x.visit(1, 24, 0), 9);
        s.due("was nothing again", x.visit(1, 24, 5), 0);
        s.due("not the other one", x.person(0, 24), 0);
        s.due("not another room", x.person(1, 23), 0);
        s.says("-1 either; -4; -6 9.");
        s.aPerson("visit", 2, person -> x.visit(person, 24, 5));
        s.aRoom("visit", room -> x.visit(1, room, 5));
        s.aNumber("visit", 0, 9, v -> x.visit(1, 24, v));
        s.due("the last that was taken", x.person(1, 24), 9);
    }

    private void nights() {
        s.in("Promise 9");
        s.says("n NIGHTS (1 .. 60) go by: how many ROOMS are SURE.");
        FoughtFromMemory x = Sentences.told("p1;k000249;k000002;");
        s.due("all are sure", x.nights(1), 25);
        s.due("one is forgotten", x.nights(1), 24);
        s.due("the sixth more", x.nights(6), 24);
        s.due("all are forgotten", x.nights(1), 0);
        s.due("the most", x.nights(60), 0);
        s.due("nights", x.count(1), 69);
        s.due("without people", new FoughtFromMemory().nights(1), 0);
        s.says("-4; -6 (60; NIGHT above 999).");
        s.aNumber("nights", 1, 60, x::nights);
        s.due("61 more", x.count(1), 130);
        Sentences.pass(x, 810);
        s.due("940 and 60", x.nights(60), -6);
        s.due("still 940", x.count(1), 940);
        s.due("940 and 59", x.nights(59), 0);
        s.due("999 and 1", x.nights(1), -6);
        s.due("999 and 0", x.nights(0), -4);
        s.due("still 999", x.count(1), 999);
    }

    private void fire() {
        s.in("Promise 10");
        s.says("Of a FIRE: how many BURN (what 0), WORTH (1), the last MINUTE (2).");
        FoughtFromMemory x = linen();
        s.due("both burn", x.fire(0, 0, 0), 2);
        s.due("their worth", x.fire(0, 0, 1), 11);
        s.due("the last minute", x.fire(0, 0, 2), 1);
        s.due("one burns", x.fire(0, 1, 0), 1);
        s.due("its worth", x.fire(0, 1, 1), 1);
        s.due("minute 0", x.fire(0, 1, 2), 0);
        s.says("-1 either; -2.");
        s.aRoom("fire", room -> x.fire(room, 1, 0));
        s.aPerson("fire", 2, speaker -> x.fire(24, speaker, 0));
        s.aWhat("fire", 2, what -> x.fire(24, 1, what));
        FoughtFromMemory y = new FoughtFromMemory();
        s.aPerson("fire without people, but for 0", 1, speaker -> y.fire(24, speaker, 0));
    }

    private void burns() {
        s.in("Promise 11");
        s.says("The MINUTE in which another ROOM BURNS; -9.");
        FoughtFromMemory x = linen();
        s.due("burns", x.burns(0, 0, 1), 1);
        s.due("is said", x.burns(0, 1, 1), -9);
        s.due("the same room", x.burns(0, 0, 0), 0);
        s.due("a wall", x.burns(0, 0, 24), -9);
        s.says("-1 any.");
        s.aRoom("burns", room -> x.burns(room, 1, 0));
        s.aRoom("burns, another one", other -> x.burns(0, 1, other));
        s.aPerson("burns", 2, speaker -> x.burns(0, speaker, 0));
        FoughtFromMemory y = new FoughtFromMemory();
        s.aPerson("burns without people, but for 0", 1, speaker -> y.burns(24, speaker, 0));
    }

    private void said() {
        s.in("Promise 12");
        s.says("The MINUTE in which another ROOM is SAID (what 0; -9), by whom (1; -9).");
        FoughtFromMemory x = linen();
        s.due("minute", x.said(0, 1, 1, 0), 1);
        s.due("by whom", x.said(0, 1, 1, 1), 1);
        s.due("never", x.said(0, 0, 1, 0), -9);
        s.due("by nobody", x.said(0, 0, 1, 1), -9);
        s.says("-1 any; -2.");
        s.aRoom("said", room -> x.said(room, 1, 0, 0));
        s.aRoom("said, another one", other -> x.said(0, 1, other, 0));
        s.aPerson("said", 2, speaker -> x.said(0, speaker, 0, 0));
        s.aWhat("said", 1, what -> x.said(0, 1, 1, what));
        FoughtFromMemory y = new FoughtFromMemory();
        s.aPerson("said without people, but for 0", 1, speaker -> y.said(24, speaker, 0, 0));
    }

    private void talker() {
        s.in("Promise 13");
        s.says("Who SAYS most; -9.");
        FoughtFromMemory x = linen();
        s.due("who says one", x.talker(0, 1), 1);
        s.due("nobody says one", x.talker(0, 0), -9);
        s.due("without people", new FoughtFromMemory().talker(24, 0), -9);
        s.says("-1 either.");
        s.aRoom("talker", room -> x.talker(room, 1));
        s.aPerson("talker", 2, speaker -> x.talker(0, speaker));
        FoughtFromMemory y = new FoughtFromMemory();
        s.aPerson("talker without people, but for 0", 1, speaker -> y.talker(24, speaker));
    }

    private void alone() {
        s.in("Promise 14");
        s.says("ALONE.");
        FoughtFromMemory x = linen();
        s.due("nobody speaks", x.alone(0), 11);
        s.due("a wall far off", x.alone(24), 0);
        s.says("-1.");
        s.aRoom("alone", x::alone);
    }

    private void bestSpeaker() {
        s.in("Promise 15");
        s.says("BEST SPEAKER; -9.");
        FoughtFromMemory x = linen();
        s.due("who knows it", x.bestSpeaker(0), 1);
        s.due("both alike", x.bestSpeaker(24), 0);
        s.due("nobody", new FoughtFromMemory().bestSpeaker(0), -9);
        s.says("-1.");
        s.aRoom("bestSpeaker", x::bestSpeaker);
        FoughtFromMemory y = new FoughtFromMemory();
        s.aRoom("bestSpeaker without people", y::bestSpeaker);
    }

    private void worstRoom() {
        s.in("Promise 16");
        s.says("WORST ROOM.");
        s.due("both burn, and from 1 both, too", linen().worstRoom(), 0);
        s.due("all alike", new FoughtFromMemory().worstRoom(), 0);
        s.due("the last", Sentences.told("vw00240;rt249;p1;k000249;").worstRoom(), 24);
    }

    private void show() {
        s.in("Promise 17");
        s.says("SHOW; -9.");
        FoughtFromMemory x = linen();
        s.due("to the first", x.show(0, 0), 1);
        s.due("to the second in vain", x.show(0, 1), -9);
        s.says("-1 either.");
        s.aRoom("show", room -> x.show(room, 1));
        s.aPerson("show", 2, person -> x.show(24, person));
        s.due("without people", new FoughtFromMemory().show(0, 0), -1);
    }

    private void mayWait() {
        s.in("Promise 18");
        s.says("WAIT; -9.");
        FoughtFromMemory x = linen();
        s.due("it burns already", x.mayWait(0), -9);
        x.visit(0, 1, 2);
        s.due("two times three nights", x.mayWait(0), 6);
        s.says("-1.");
        s.aRoom("mayWait", x::mayWait);
    }

    private void leftOut() {
        s.in("Promise 19");
        s.says("LEFT OUT; -9.");
        FoughtFromMemory x = linen();
        s.due("who knows it", x.leftOut(0), 1);
        s.due("nobody", new FoughtFromMemory().leftOut(0), -9);
        s.says("-1.");
        s.aRoom("leftOut", x::leftOut);
    }

    private void enough() {
        s.in("Promise 20");
        s.says("ENOUGH (bits).");
        FoughtFromMemory x = linen();
        s.due("nobody, since all together are late", x.enough(0), 0);
        x.turn(1, 5, 9);
        s.due("the second", x.enough(0), 2);
        s.due("without people", new FoughtFromMemory().enough(0), 0);
        s.says("-1.");
        s.aRoom("enough", x::enough);
    }

    private void wall() {
        s.in("Promise 21");
        s.says("WALL; -9.");
        FoughtFromMemory x = linen();
        s.due("in place of the linen", x.wall(0), 1);
        s.due("not in place of the fire's", x.wall(1), 0);
        s.due("never less", x.wall(24), -9);
        s.says("-1.");
        s.aRoom("wall", x::wall);
    }

    private void captain() {
        s.in("Promise 22");
        s.says("CAPTAIN: who (what 0; -9), that WORTH (1; -9).");
        FoughtFromMemory x = linen();
        s.due("who knows it", x.captain(0, 24, 0), 1);
        s.due("that worth", x.captain(0, 24, 1), 1);
        FoughtFromMemory y = new FoughtFromMemory();
        s.due("nobody", y.captain(0, 24, 0), -9);
        s.due("no worth", y.captain(0, 24, 1), -9);
        s.says("-1 either (one twice, too); -2.");
        s.aRoom("captain", one -> x.captain(one, 12, 0));
        s.aRoom("captain, the other", other -> x.captain(12, other, 0));
        for (int room = 0; room < 25; room++) {
            s.due("room " + room + " twice", x.captain(room, room, 0), -1);
        }
        s.aWhat("captain", 1, what -> x.captain(0, 24, what));
        s.due("one twice without people", y.captain(3, 3, 0), -1);
        s.due("another what without people", y.captain(3, 4, 2), -2);
    }

    private void unlike() {
        s.in("Promise 23");
        s.says("UNLIKE: how many (what 0), the first (1; -9).");
        FoughtFromMemory x = linen();
        s.due("one", x.unlike(1, 0, 0), 1);
        s.due("the first", x.unlike(1, 0, 1), 1);
        s.due("none", x.unlike(0, 1, 0), 0);
        s.due("no first", x.unlike(0, 1, 1), -9);
        s.says("-1 either (one twice, too); -2.");
        for (int person : new int[] {-1, 2, 5, Sentences.BIG, Sentences.SMALL}) {
            s.due("one is " + person, x.unlike(person, 0, 0), -1);
            s.due("the other is " + person, x.unlike(0, person, 0), -1);
            s.due("both are " + person, x.unlike(person, person, 0), -1);
        }
        s.due("0 twice", x.unlike(0, 0, 0), -1);
        s.due("1 twice", x.unlike(1, 1, 1), -1);
        s.aWhat("unlike", 1, what -> x.unlike(0, 1, what));
    }

    private void sure() {
        s.in("Promise 24");
        s.says("SURE (what 0), NOBODY'S (1).");
        FoughtFromMemory x = linen();
        s.due("none is sure", x.sure(0), 0);
        s.due("all but one are nobody's", x.sure(1), 24);
        x.visit(0, 1, 1);
        s.due("one is sure", x.sure(0), 1);
        s.says("-2.");
        s.aWhat("sure", 1, x::sure);
    }

    private void slip() {
        s.in("Promise 25");
        s.says("SLIP, part 0 above, 1 below the line.");
        FoughtFromMemory x = linen();
        x.visit(0, 1, 1);
        s.due("above", x.slip(0, 1, 3, 1, 0), 2);
        s.due("below", x.slip(0, 1, 3, 1, 1), 3);
        s.due("never: above", x.slip(0, 7, 20, 0, 0), 0);
        s.due("never: below", x.slip(0, 7, 20, 0, 1), 1);
        s.due("surely: above", x.slip(0, 7, 20, 11, 0), 1);
        s.due("surely: below", x.slip(0, 7, 20, 11, 1), 1);
    }

    private long slipped(FoughtFromMemory x, int... a) {
        long got = x.slip(a[0], a[1], a[2], a[3], a[4]);
        return got > 3999999999999999999L ? 4000000000000000000L - got : got;
    }

    private void slipRefused() {
        s.says("Refused as told: -1; -4 (n, v; t below 2); -6 (7; 20; 999); -2.");
        FoughtFromMemory x = linen();
        s.aRoom("slip", room -> slipped(x, room, 0, 2, 0, 0));
        s.aNumber("slip, n", 0, 7, n -> slipped(x, 24, n, 2, 0, 0));
        s.aNumber("slip, t", 2, 20, t -> slipped(x, 24, 0, t, 0, 0));
        s.aNumber("slip, v", 0, 999, v -> slipped(x, 24, 0, 2, v, 0));
        s.aWhat("slip, part", 1, part -> slipped(x, 24, 0, 2, 0, part));
        s.due("room before n", slipped(x, 25, -1, 1, -1, 2), -1);
        s.due("n below before t above", slipped(x, 24, -1, 21, 1000, 2), -4);
        s.due("t below before n above", slipped(x, 24, 8, 1, 1000, 2), -4);
        s.due("v below before n above", slipped(x, 24, 8, 21, -1, 2), -4);
        s.due("n above before part", slipped(x, 24, 8, 20, 999, 2), -6);
        s.due("t above before part", slipped(x, 24, 7, 21, 999, 2), -6);
        s.due("v above before part", slipped(x, 24, 7, 20, 1000, 2), -6);
    }

    private void whatWas() {
        s.in("Promise 26");
        s.says("WHAT IT WAS by the ROW (it stays), a FIRE in a ROOM, of another one: KINDS (what 0, bits), FIGURES "
                + "(1).");
        FoughtFromMemory x = linen();
        s.due("no row: all kinds", x.whatWas(0, 1, 0), 63);
        s.due("no row: all figures", x.whatWas(0, 1, 1), 1023);
        x.row(0);
        x.row(1);
        s.due("linen", x.whatWas(0, 1, 0), 2);
        s.due("any figure", x.whatWas(0, 1, 1), 1023);
        s.due("of the fire's own room: any", x.whatWas(0, 0, 0), 63);
        s.due("not in this fire", x.whatWas(24, 1, 0), 0);
        s.due("nor any figure", x.whatWas(24, 1, 1), 0);
        s.due("the row stays", x.count(6), 2);
        s.due("with the same numbers", x.whatWas(0, 1, 0), 2);
        s.says("-1 either; -2.");
        s.aRoom("whatWas", room -> x.whatWas(room, 0, 0));
        s.aRoom("whatWas, another one", other -> x.whatWas(0, other, 0));
        s.aWhat("whatWas", 1, what -> x.whatWas(0, 0, what));
        s.due("the row stays", x.count(6), 2);
    }

    private void row() {
        s.in("Promise 27");
        s.says("A number more of the ROW (0 .. 99): how many.");
        FoughtFromMemory x = new FoughtFromMemory();
        s.due("the least", x.row(0), 1);
        s.due("the greatest", x.row(99), 2);
        for (int i = 3; i <= 25; i++) {
            s.due("more", x.row(i), i);
        }
        s.says("-4; -6 (99; 25, too).");
        s.due("full", x.row(0), -6);
        s.due("full and above", x.row(100), -6);
        s.due("full, but below", x.row(-1), -4);
        s.due("25", x.clear(), 25);
        s.aNumber("row", 0, 99, x::row);
        s.due("two were taken", x.count(6), 2);
    }

    private void judge() {
        s.in("Promise 28");
        s.says("JUDGED; -9 (the ROW has none then).");
        FoughtFromMemory x = linen();
        s.due("no row", x.judge(0), -9);
        x.row(99);
        s.due("so", x.judge(0), -9);
        s.due("none then", x.count(6), 0);
        x.row(99);
        x.row(1);
        s.due("not so", x.judge(0), 1);
        s.due("none then, either", x.count(6), 0);
        s.due("the first again", x.row(1), 1);
        s.due("not so at the first", x.judge(0), 0);
        s.says("-1 (it stays).");
        x.row(99);
        x.row(0);
        for (int room : new int[] {-1, 25, 32, Sentences.BIG, Sentences.SMALL}) {
            s.due("room " + room, x.judge(room), -1);
            s.due("it stays", x.count(6), 2);
        }
        s.due("with the same numbers", x.judge(24), 1);
    }

    private void clear() {
        s.in("Promise 29");
        s.says("The ROW has none then: how many it had.");
        FoughtFromMemory x = linen();
        s.due("none", x.clear(), 0);
        x.row(5);
        s.due("one", x.clear(), 1);
        s.due("none then", x.count(6), 0);
        s.due("none again", x.clear(), 0);
        for (int i = 1; i <= 25; i++) {
            s.due("room again", x.row(i), i);
        }
        s.due("all", x.clear(), 25);
        s.due("the first again", x.row(0), 1);
    }

    private void lots() {
        s.in("Promise 30");
        s.says("LOTS: WORTH (what 0), ROOMS (1).");
        FoughtFromMemory x = new FoughtFromMemory();
        s.due("one night", x.lots(1, 0, 0), 25);
        s.due("its rooms", x.lots(1, 0, 1), 25);
        s.due("twenty", x.lots(20, Sentences.SMALL, 0), 500);
        s.due("their rooms", x.lots(20, Sentences.BIG, 1), 500);
        FoughtFromMemory pianos = Sentences.told("vp00249;");
        s.due("the greatest worth", pianos.lots(20, -1, 0), 15000);
        s.due("their rooms", pianos.lots(20, -1, 1), 500);
        s.says("-4; -6 20; -2.");
        s.aNumber("lots", 1, 20, n -> x.lots(n, 0, 0));
        s.aWhat("lots", 1, what -> x.lots(20, 0, what));
        for (int z : new int[] {0, -1, Sentences.BIG, Sentences.SMALL}) {
            s.due("any seed is taken", x.lots(2, z, 0), 50);
        }
    }

    private void image() {
        s.in("Promise 31");
        s.says("THE IMAGE is taken: NIGHT.");
        FoughtFromMemory x = new FoughtFromMemory();
        s.due("night 0", x.image(), 0);
        Sentences.pass(x, 999);
        s.due("the last night", x.image(), 999);
        s.due("the newer one", x.on(), 999);
        s.due("taken again", x.image(), 999);
    }

    private void on() {
        s.in("Promise 32");
        s.says("ON from it: NIGHT.");
        FoughtFromMemory x = linen();
        x.image();
        s.due("at once", x.on(), 0);
        x.nights(60);
        s.due("night 0 again", x.on(), 0);
        s.due("known again", x.person(1, 1), 9);
        x.nights(7);
        s.due("and again", x.on(), 0);
        s.due("night", x.count(1), 0);
        s.says("-3 there is none.");
        FoughtFromMemory y = linen();
        y.nights(2);
        s.due("none", y.on(), -3);
        s.due("nothing changes", y.count(1), 2);
        s.due("one refusal", y.count(13), 1);
        y.image();
        s.due("one", y.on(), 2);
        s.due("still one refusal", y.count(13), 1);
    }

    private void count() {
        s.in("Promise 33");
        s.says("0 PEOPLE, 1 NIGHT, 2 all WORTH, 3 WALLS (w, d), 4 ROOMS that somebody KNOWS well enough, 5 all KNOWN "
                + "together, 6 in the ROW, 7 letters, 11 .. 16 REFUSALS -1 .. -6.");
        FoughtFromMemory x = new FoughtFromMemory();
        int[] least = {0, 0, 25, 0, 0, 0, 0, 0};
        for (int what = 0; what <= 7; what++) {
            s.due("of a new object: " + what, x.count(what), least[what]);
        }
        FoughtFromMemory y = Sentences.told("vp00249;" + "p9;".repeat(5) + "k000249;k100249;k200249;k300249;k400249;");
        for (int i = 0; i < 25; i++) {
            y.row(i);
        }
        for (int i = 0; i < 96; i++) {
            y.letter(i);
        }
        int[] most = {5, 0, 750, 0, 25, 1125, 25, 96};
        for (int what = 0; what <= 7; what++) {
            s.due("of a full one: " + what, y.count(what), most[what]);
        }
        y.visit(0, 24, 3);
        s.due("somebody still knows it", y.count(4), 25);
        Sentences.pass(y, 999);
        s.due("night", y.count(1), 999);
        s.due("nobody knows anything", y.count(4), 0);
        FoughtFromMemory z = Sentences.told("vw00110;vd12249;");
        s.due("walls and doors", z.count(3), 25);
        s.due("all worth", z.count(2), 117);
        s.due("without people", z.count(4), 0);
        countedRefusals();
        s.says("-9 for another what.");
        for (int what : new int[] {-1, -9, 8, 9, 10, 17, 18, 32, 43, Sentences.BIG, Sentences.SMALL}) {
            s.due("count(" + what + ")", z.count(what), -9);
        }
        s.due("that is no refusal", z.count(12), 0);
    }

    private void countedRefusals() {
        FoughtFromMemory x = new FoughtFromMemory();
        for (int times = 1; times <= 9; times++) {
            x.alone(25);
            s.due("-1", x.count(11), times);
            x.sure(2);
            s.due("-2", x.count(12), times);
            x.on();
            s.due("-3", x.count(13), times);
            x.row(-1);
            s.due("-4", x.count(14), times);
            s.due("-5 is none", x.count(15), 0);
            x.row(100);
            s.due("-6", x.count(16), times);
        }
    }
}
