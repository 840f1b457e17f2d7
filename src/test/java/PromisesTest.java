/**
 * The promises by number, with answers that were worked out by hand. Most of them ask after a corridor: rooms 0 to 4
 * with a thing (worth 1), linen (3), a thing (5), a stair (6) and a piano (14), all else wall. Person 0 (sharp 3)
 * knows rooms 2 and 3 by 1, person 1 (sharp 2) knows all by 2.
 */
public final class PromisesTest {
    private static final String ROOMS = "vw00240;rt000;rl012;rt024;rs030;rp041;";
    private static final String PEOPLE = "p3;p2;k002031;k100242;";
    private static final int BIG = Integer.MAX_VALUE;
    private static final int SMALL = Integer.MIN_VALUE;
    private static final Checks CHECKS = new Checks("PromisesTest");

    private PromisesTest() {
    }

    public static void main(String[] args) {
        newObject();
        letter();
        houseTold();
        houseStray();
        houseAmiss();
        room();
        person();
        turn();
        sharp();
        visit();
        nights();
        fire();
        burnsAndSaid();
        talker();
        alone();
        bestSpeaker();
        worstRoom();
        show();
        mayWait();
        leftOut();
        enough();
        wall();
        captain();
        unlike();
        sure();
        slip();
        slipRefused();
        whatWas();
        row();
        judge();
        clear();
        lots();
        imageAndOn();
        count();
        refusalsChangeNothing();
        CHECKS.end();
    }

    private static void due(String call, long got, long want) {
        CHECKS.due(call, got, want);
    }

    private static FoughtFromMemory corridor() {
        FoughtFromMemory x = new FoughtFromMemory();
        due("house of rooms", Checks.tell(x, ROOMS), 6);
        due("house of people", Checks.tell(x, PEOPLE), 4);
        return x;
    }

    private static FoughtFromMemory told(String letters, int answer) {
        FoughtFromMemory x = new FoughtFromMemory();
        due("house " + letters, Checks.tell(x, letters), answer);
        return x;
    }

    private static void rows(FoughtFromMemory x, int... numbers) {
        for (int i = 0; i < numbers.length; i++) {
            due("row", x.row(numbers[i]), i + 1);
        }
    }

    private static void newObject() {
        FoughtFromMemory x = new FoughtFromMemory();
        for (int r = 0; r < 25; r++) {
            due("1 kind", x.room(r, 0), 0);
            due("1 figure", x.room(r, 1), 0);
        }
        due("1 people", x.count(0), 0);
        due("1 night", x.count(1), 0);
        due("1 row", x.count(6), 0);
        due("1 letters", x.count(7), 0);
        for (int what = 11; what <= 16; what++) {
            due("1 refusals", x.count(what), 0);
        }
        due("1 image", x.on(), -3);
    }

    private static void letter() {
        FoughtFromMemory x = new FoughtFromMemory();
        due("2 least", x.letter(0), 1);
        due("2 greatest", x.letter(255), 2);
        due("2 below", x.letter(-1), -4);
        due("2 far below", x.letter(SMALL), -4);
        due("2 above", x.letter(256), -6);
        due("2 far above", x.letter(BIG), -6);
        for (int i = 3; i <= 96; i++) {
            due("2 more", x.letter('p'), i);
        }
        due("2 no room", x.letter('p'), -6);
        due("2 no room, below", x.letter(-1), -4);
        due("2 letters", x.count(7), 96);
        due("2 stray from the first", x.house(), -1000);
        due("2 letters behind house", x.count(7), 0);
        due("2 first again", x.letter('p'), 1);
    }

    private static void houseTold() {
        FoughtFromMemory x = corridor();
        due("3 linen", x.room(1, 0), 1);
        due("3 stair", x.room(3, 0), 2);
        due("3 piano", x.room(4, 0), 3);
        due("3 piano's figure", x.room(4, 1), 1);
        due("3 walls", x.count(3), 20);
        due("3 sharp", x.person(1, -1), 2);
        due("3 knows", x.person(0, 3), 1);
        due("3 knows not", x.person(0, 4), 0);
        due("3 nights", Checks.tell(x, "n02;"), 1);
        due("3 knows less", x.person(1, 0), 1);
        due("3 night", x.count(1), 2);
        due("3 in their order", Checks.tell(x, "p1;k200249;n03;k224241;rd249;"), 5);
        due("3 forgotten, then told", x.person(2, 0), 9 - 3);
        due("3 told behind", x.person(2, 24), 1);
        due("3 door", x.room(24, 0), 5);
        due("3 one room of a span", Checks.tell(x, "vs24248;"), 1);
        due("3 the last room", x.room(24, 4), 14);
        due("3 a full telling", Checks.tell(x, "p1;".repeat(2) + "n01;".repeat(22) + ";"), -1094);
        due("3 96 letters", Checks.tell(x, "n01;".repeat(24)), 24);
        due("3 night", x.count(1), 5 + 24);
        due("3 nothing is refused", x.count(11) + x.count(12) + x.count(13) + x.count(14) + x.count(16), 0);
    }

    private static void houseStray() {
        told("", -1000);
        told("x", -1000);
        told("r", -1001);
        told("rx000;", -1001);
        told("rt", -1002);
        told("rt0", -1003);
        told("rt0a0;", -1003);
        told("rt000", -1005);
        told("rt000r", -1005);
        told("vt0000;", -1006);
        told("p;", -1001);
        told("p1", -1002);
        told("p11;", -1002);
        told("k00000;", -1006);
        told("n1;", -1002);
        told("p1;;", -1003);
        told("p1;T", -1003);
        told("p0;x", -1003);
        FoughtFromMemory x = told("p1;rt", -1005);
        due("3 nothing of it came", x.count(0), 0);
        due("3 no letters", x.count(7), 0);
        due("3 nothing is counted", x.count(14) + x.count(16) + x.count(12), 0);
        due("3 a letter above 127", x.letter(255), 1);
        due("3 stray above 127", x.house(), -1000);
        due("3 a letter 0", x.letter(0), 1);
        due("3 stray 0", x.house(), -1000);
    }

    private static void houseAmiss() {
        told("rt250;", -2000);
        told("rt990;", -2000);
        told("vt00250;", -2000);
        told("vt05040;", -2000);
        told("vt05050;", 1);
        told("p0;", -2000);
        told("p9;", 1);
        told("k000000;", -2000);
        told("p1;k100000;", -2003);
        told("p1;k000250;", -2003);
        told("p1;k005040;", -2003);
        told("p1;k099990;", -2003);
        told("p1;k024249;", 2);
        told("n00;", -2000);
        told("n61;", -2000);
        told("n60;", 1);
        told("k000000;p1;", -2000);
        told("p1;p1;p1;p1;p1;", 5);
        told("p1;p1;p1;p1;p1;p1;", -2015);
        FoughtFromMemory x = told("rl009;p1;p0;", -2009);
        due("3 nothing of it came", x.count(0) + x.room(0, 0), 0);
        for (int i = 0; i < 16; i++) {
            due("3 nights go by", Checks.tell(x, "n60;"), 1);
        }
        due("3 above 999", Checks.tell(x, "n39;n01;"), -2004);
        due("3 not one of them", x.count(1), 960);
        due("3 up to 999", Checks.tell(x, "n39;"), 1);
        due("3 no more", Checks.tell(x, "p1;n01;"), -2003);
        due("3 people told before count", Checks.tell(x, "p1;p1;p1;p1;"), 4);
        due("3 one more", Checks.tell(x, "k300001;p2;"), 2);
        due("3 no room", Checks.tell(x, "k300001;p2;"), -2008);
    }

    private static void room() {
        FoughtFromMemory x = told("rt009;rl018;rs027;rp036;rw045;rd054;", 6);
        int[][] want = {{0, 9, 1, 2, 10}, {1, 8, 1, 1, 9}, {2, 7, 2, 3, 13}, {3, 6, 4, 3, 24}, {4, 5, 1, -9, 0},
            {5, 4, 1, 4, 4}};
        for (int r = 0; r < want.length; r++) {
            for (int what = 0; what < 5; what++) {
                due("4 room(" + r + ", " + what + ")", x.room(r, what), want[r][what]);
            }
        }
        due("4 no such room", x.room(25, 0), -1);
        due("4 no such room", x.room(-1, 9), -1);
        due("4 no such room", x.room(SMALL, 0), -1);
        due("4 other", x.room(24, 5), -2);
        due("4 other", x.room(0, -1), -2);
        due("4 other", x.room(0, BIG), -2);
    }

    private static void person() {
        FoughtFromMemory x = corridor();
        due("5 sharp", x.person(0, -1), 3);
        due("5 knows", x.person(0, 2), 1);
        due("5 knows", x.person(1, 24), 2);
        due("5 nobody", x.person(2, -1), -1);
        due("5 nobody", x.person(-1, -1), -1);
        due("5 no such room", x.person(0, 25), -1);
        due("5 no such room", x.person(0, -2), -1);
        due("5 far", x.person(BIG, SMALL), -1);
        due("5 refused", x.count(11), 5);
    }

    private static void turn() {
        FoughtFromMemory x = corridor();
        due("6 was linen 2", x.turn(1, 5, 9), 12);
        due("6 was a door 9", x.turn(1, 0, 0), 59);
        due("6 was a thing 0", x.turn(1, 3, 1), 0);
        due("6 worth now", x.room(1, 4), 14);
        due("6 no such room", x.turn(25, 6, -1), -1);
        due("6 no such kind", x.turn(24, 6, -1), -2);
        due("6 no such kind", x.turn(24, -1, 10), -2);
        due("6 below", x.turn(24, 5, -1), -4);
        due("6 above", x.turn(24, 5, 10), -6);
        due("6 as it was", x.room(24, 0), 4);
    }

    private static void sharp() {
        FoughtFromMemory x = corridor();
        due("7 was 3", x.sharp(0, 9), 3);
        due("7 was 9", x.sharp(0, 1), 9);
        due("7 is 1", x.person(0, -1), 1);
        due("7 nobody", x.sharp(2, 0), -1);
        due("7 below", x.sharp(0, 0), -4);
        due("7 above", x.sharp(0, 10), -6);
        due("7 still 1", x.person(0, -1), 1);
        x.nights(1);
        due("7 forgets each night", x.person(0, 2), 0);
    }

    private static void visit() {
        FoughtFromMemory x = corridor();
        due("8 knew 1", x.visit(0, 2, 9), 1);
        due("8 knew 9", x.visit(0, 2, 0), 9);
        due("8 knows 0", x.person(0, 2), 0);
        due("8 nobody", x.visit(2, 0, -1), -1);
        due("8 no such room", x.visit(0, 25, 10), -1);
        due("8 no room -1", x.visit(0, -1, 5), -1);
        due("8 below", x.visit(1, 0, -1), -4);
        due("8 above", x.visit(1, 0, 10), -6);
        due("8 as it was", x.person(1, 0), 2);
    }

    private static void nights() {
        FoughtFromMemory x = corridor();
        due("9 sure: room 2", x.nights(2), 1);
        due("9 who divides 2", x.person(1, 7), 1);
        due("9 who does not", x.person(0, 2), 1);
        due("9 nothing is sure", x.nights(1), 0);
        due("9 who divides 3", x.person(0, 2), 0);
        due("9 night", x.count(1), 3);
        due("9 never below 0", x.nights(60), 0);
        due("9 all forgotten", x.count(5), 0);
        due("9 below", x.nights(0), -4);
        due("9 below", x.nights(SMALL), -4);
        due("9 above", x.nights(61), -6);
        due("9 above", x.nights(BIG), -6);
        for (int i = 0; i < 15; i++) {
            due("9 on", x.nights(60), 0);
        }
        due("9 963 and 37", x.nights(37), -6);
        due("9 963 and 36", x.nights(36), 0);
        due("9 999 and 1", x.nights(1), -6);
        due("9 night", x.count(1), 999);
        due("9 without people", new FoughtFromMemory().nights(60), 0);
    }

    private static void fire() {
        FoughtFromMemory x = corridor();
        int[][] want = {{0, 0, 2, 4, 1}, {0, 1, 1, 1, 0}, {1, 0, 1, 3, 0}, {2, 0, 3, 9, 3}, {2, 1, 1, 5, 0},
            {3, 0, 2, 20, 3}, {4, 0, 1, 14, 0}, {12, 0, 1, 0, 0}};
        for (int[] row : want) {
            for (int what = 0; what < 3; what++) {
                due("10 fire(" + row[0] + ", " + row[1] + ", " + what + ")", x.fire(row[0], row[1], what), row[2 + what]);
            }
        }
        due("10 what a wall lights that burns is said", x.fire(7, 0, 0), 1);
        due("10 no such room", x.fire(25, 0, 3), -1);
        due("10 nobody", x.fire(0, 2, 3), -1);
        due("10 nobody", x.fire(0, -1, 0), -1);
        due("10 other", x.fire(0, 0, 3), -2);
        due("10 other", x.fire(0, 0, -1), -2);
        FoughtFromMemory y = new FoughtFromMemory();
        due("10 all burns", y.fire(12, 0, 0), 25);
        due("10 the corners last", y.fire(12, 0, 2), 8);
        due("10 speaker 0 without people", y.fire(12, 1, 0), -1);
        due("10 below 0", y.fire(12, -1, 0), -1);
    }

    private static void burnsAndSaid() {
        FoughtFromMemory x = corridor();
        due("11 the fire's own", x.burns(2, 0, 2), 0);
        due("11 linen", x.burns(2, 0, 1), 1);
        due("11 behind it", x.burns(2, 0, 0), 3);
        due("11 said", x.burns(2, 0, 3), -9);
        due("11 behind a said one", x.burns(2, 0, 4), -9);
        due("11 refused", x.burns(25, 0, 0) + x.burns(0, 2, 0) + x.burns(0, 0, 25) + x.burns(0, 0, -1), -4);
        due("12 dearest of the soonest", x.said(2, 0, 3, 0), 2);
        due("12 by whom", x.said(2, 0, 3, 1), 1);
        due("12 not said", x.said(2, 0, 1, 0), -9);
        due("12 by nobody", x.said(2, 0, 1, 1), -9);
        due("12 just before it burns", x.said(2, 1, 3, 0), 3);
        due("12 by whom, round", x.said(2, 1, 3, 1), 1);
        due("12 a wall is never said", x.said(0, 1, 7, 0), -9);
        due("12 any", x.said(25, 0, 0, 2) + x.said(0, 2, 0, 2) + x.said(0, 0, 25, 2), -3);
        due("12 other", x.said(0, 0, 0, 2) + x.said(0, 0, 0, -1), -4);
        FoughtFromMemory y = told("p9;k000249;", 2);
        due("12 the least of several alike", y.said(12, 0, 7, 0), 1);
        y.turn(17, 0, 1);
        due("12 the one of more worth", y.said(12, 0, 17, 0), 1);
        due("12 the next one", y.said(12, 0, 7, 0), 2);
        y.turn(11, 1, 0);
        due("12 sooner before dearer", y.said(12, 0, 11, 0), 1);
        y.turn(24, 3, 9);
        due("12 a piano far off is later", y.said(12, 0, 24, 0) > 2 || y.said(12, 0, 24, 0) == -9 ? 1 : 0, 1);
    }

    private static void talker() {
        FoughtFromMemory x = corridor();
        due("13 one says one", x.talker(0, 0), 0);
        due("13 the other", x.talker(0, 1), 1);
        due("13 both say one: the least", x.talker(4, 0), 0);
        due("13 says two", x.talker(2, 1), 1);
        due("13 nothing is said", x.talker(12, 0), -9);
        due("13 no such room", x.talker(25, 0), -1);
        due("13 nobody", x.talker(0, 2), -1);
        due("13 without people", new FoughtFromMemory().talker(0, 0), -9);
        due("13 who know nothing", told("p1;p1;", 2).talker(0, 0), -9);
    }

    private static void alone() {
        FoughtFromMemory x = corridor();
        due("14 all the corridor", x.alone(0), 29);
        due("14 a wall", x.alone(12), 0);
        due("14 a wall that burns lights what is beside it", x.alone(7), 29);
        due("14 no such room", x.alone(25), -1);
        due("14 no such room", x.alone(-1), -1);
    }

    private static void bestSpeaker() {
        FoughtFromMemory x = corridor();
        due("15 the second", x.bestSpeaker(0), 1);
        due("15 the second", x.bestSpeaker(2), 1);
        due("15 both alike", x.bestSpeaker(4), 0);
        due("15 no such room", x.bestSpeaker(25), -1);
        due("15 nobody", new FoughtFromMemory().bestSpeaker(0), -9);
    }

    private static void worstRoom() {
        FoughtFromMemory x = corridor();
        due("16 stair and piano", x.worstRoom(), 3);
        due("16 all alike", new FoughtFromMemory().worstRoom(), 0);
        due("16 walls alone", told("vw00249;", 1).worstRoom(), 0);
        due("16 an island", told("vw00240;rp249;", 2).worstRoom(), 19);
    }

    private static void show() {
        FoughtFromMemory x = corridor();
        due("17 the piano", x.show(3, 0), 4);
        due("17 the piano", x.show(3, 1), 4);
        due("17 the linen", x.show(0, 0), 1);
        due("17 never less", x.show(1, 0), -9);
        due("17 nothing is learnt", x.person(0, 4), 0);
        due("17 no such room", x.show(25, 0), -1);
        due("17 nobody", x.show(0, 2), -1);
    }

    private static void mayWait() {
        FoughtFromMemory x = corridor();
        due("18 till both forget", x.mayWait(0), 4);
        due("18 no night goes by", x.count(1), 0);
        due("18 nothing to lose", x.mayWait(12), -9);
        due("18 no such room", x.mayWait(25), -1);
        x.nights(1);
        due("18 a night less", x.mayWait(0), 3);
        FoughtFromMemory y = told("p9;k000249;", 2);
        due("18 9 times 9", y.mayWait(0), 81);
        y.nights(9);
        due("18 still the same night", y.mayWait(0), 72);
    }

    private static void leftOut() {
        FoughtFromMemory x = corridor();
        due("19 the turn goes to the next", x.leftOut(0), 1);
        due("19 who alone knows", x.leftOut(2), 1);
        due("19 all alike", x.leftOut(12), 0);
        due("19 no such room", x.leftOut(25), -1);
        due("19 nobody", new FoughtFromMemory().leftOut(0), -9);
    }

    private static void enough() {
        FoughtFromMemory x = corridor();
        due("20 the first", x.enough(0), 1);
        due("20 the second", x.enough(2), 2);
        due("20 nobody is needed", x.enough(12), 0);
        due("20 the least of several", told("vw00240;rt000;rl019;rl059;p9;p9;k001013;k105053;", 8).enough(0), 1);
        due("20 no such room", x.enough(25), -1);
        due("20 without people", new FoughtFromMemory().enough(0), 0);
        due("20 who know nothing", told("p1;", 1).enough(0), 0);
        due("20 two are needed", told("vw00240;rt000;rl011;rs020;rt059;p9;p9;k002029;k105059;", 9).enough(0), 3);
    }

    private static void wall() {
        FoughtFromMemory x = corridor();
        due("21 in place of linen", x.wall(0), 1);
        due("21 in place of the piano", x.wall(3), 4);
        due("21 never less", x.wall(1), -9);
        due("21 nothing is built", x.room(1, 0), 1);
        due("21 no such room", x.wall(25), -1);
        due("21 not the fire's own", told("vw00240;rp009;", 2).wall(0), -9);
    }

    private static void captain() {
        FoughtFromMemory x = corridor();
        due("22 who", x.captain(0, 2, 0), 1);
        due("22 worth", x.captain(0, 2, 1), 5);
        due("22 who, the other way round", x.captain(2, 0, 0), 1);
        due("22 alike", x.captain(3, 4, 0), 0);
        due("22 the greater", x.captain(3, 4, 1), 20);
        due("22 one twice", x.captain(3, 3, 2), -1);
        due("22 no such room", x.captain(25, 3, 2), -1);
        due("22 no such room", x.captain(3, -1, 2), -1);
        due("22 other", x.captain(3, 4, 2), -2);
        due("22 other", x.captain(3, 4, -1), -2);
        FoughtFromMemory y = new FoughtFromMemory();
        due("22 nobody", y.captain(0, 1, 0) + y.captain(0, 1, 1), -18);
    }

    private static void unlike() {
        FoughtFromMemory x = corridor();
        due("23 none", x.unlike(0, 1, 0), 0);
        due("23 no first", x.unlike(0, 1, 1), -9);
        due("23 many", x.unlike(1, 0, 0), 23);
        due("23 the first", x.unlike(1, 0, 1), 0);
        x.visit(0, 0, 1);
        due("23 the next", x.unlike(1, 0, 1), 1);
        due("23 one twice", x.unlike(0, 0, 2), -1);
        due("23 nobody", x.unlike(0, 2, 2) + x.unlike(2, 0, 0) + x.unlike(-1, 0, 0), -3);
        due("23 other", x.unlike(0, 1, 2) + x.unlike(0, 1, -1), -4);
    }

    private static void sure() {
        FoughtFromMemory x = corridor();
        due("24 sure", x.sure(0), 1);
        due("24 nobody's", x.sure(1), 1);
        due("24 other", x.sure(2) + x.sure(-1), -4);
        FoughtFromMemory y = new FoughtFromMemory();
        due("24 sure without people", y.sure(0), 0);
        due("24 nobody's without people", y.sure(1), 25);
    }

    private static void slip() {
        FoughtFromMemory x = corridor();
        long[][] want = {{0, 0, 2, 4, 1, 1}, {0, 0, 2, 3, 0, 1}, {0, 1, 4, 4, 1, 1}, {0, 3, 4, 4, 63, 64},
            {0, 3, 4, 8, 63, 64}, {0, 3, 4, 9, 1, 1}, {0, 3, 4, 3, 0, 1}, {0, 3, 2, 4, 7, 8}, {0, 7, 20, 4, 7999, 8000},
            {0, 7, 20, 9, 3199999, 3200000}, {0, 7, 20, 28, 3199999, 3200000}, {0, 7, 20, 29, 1, 1},
            {0, 7, 20, 999, 1, 1}, {1, 1, 3, 3, 2, 3}, {3, 7, 20, 19, 0, 1}};
        for (long[] row : want) {
            for (int part = 0; part < 2; part++) {
                due("25 slip(" + row[0] + ", " + row[1] + ", " + row[2] + ", " + row[3] + ", " + part + ")",
                        x.slip((int) row[0], (int) row[1], (int) row[2], (int) row[3], part), row[4 + part]);
            }
        }
        FoughtFromMemory y = new FoughtFromMemory();
        due("25 without people", y.slip(0, 7, 2, 24, 0), 0);
        due("25 without people", y.slip(0, 7, 2, 25, 0), 1);
    }

    private static void slipRefused() {
        FoughtFromMemory x = corridor();
        long base = 4000000000000000000L;
        due("25 no such room", x.slip(25, -1, 1, -1, 2), base + 1);
        due("25 n below", x.slip(0, -1, 21, 1000, 2), base + 4);
        due("25 t below", x.slip(0, 8, 1, 1000, 2), base + 4);
        due("25 v below", x.slip(0, 8, 21, -1, 2), base + 4);
        due("25 n above", x.slip(0, 8, 2, 0, 2), base + 6);
        due("25 t above", x.slip(0, 0, 21, 0, 2), base + 6);
        due("25 v above", x.slip(0, 0, 2, 1000, 2), base + 6);
        due("25 other", x.slip(0, 0, 2, 0, 2), base + 2);
        due("25 other", x.slip(0, 0, 2, 0, -1), base + 2);
        due("25 counted", 1000 * x.count(11) + 100 * x.count(12) + 10 * x.count(14) + x.count(16), 1233);
    }

    private static void whatWas() {
        FoughtFromMemory x = corridor();
        due("26 nothing told: any kind", x.whatWas(0, 1, 0), 63);
        due("26 nothing told: any figure", x.whatWas(0, 1, 1), 1023);
        rows(x, 0, 1);
        due("26 linen", x.whatWas(0, 1, 0), 2);
        due("26 any behind it", x.whatWas(0, 2, 0), 63);
        due("26 the row stays", x.row(99), 3);
        due("26 all but a piano", x.whatWas(0, 2, 0), 63 - 8);
        due("26 any figure", x.whatWas(0, 2, 1), 1023);
        due("26 not in this fire", x.whatWas(2, 0, 0), 0);
        due("26 as it was", x.room(2, 0), 0);
        x.clear();
        rows(x, 3);
        due("26 worth less than the stair", x.whatWas(2, 0, 1), 31);
        x.clear();
        rows(x, 99);
        due("26 worth as much or more", x.whatWas(2, 0, 1), 1023 - 31);
        due("26 either", x.whatWas(25, 0, 2) + x.whatWas(0, 25, 2) + x.whatWas(0, -1, 0), -3);
        due("26 other", x.whatWas(0, 0, 2) + x.whatWas(0, 0, -1), -4);
    }

    private static void row() {
        FoughtFromMemory x = corridor();
        rows(x, 0, 99, 50);
        due("27 below", x.row(-1) + x.row(SMALL), -8);
        due("27 above", x.row(100) + x.row(BIG), -12);
        for (int i = 4; i <= 25; i++) {
            due("27 more", x.row(i), i);
        }
        due("27 no room", x.row(0), -6);
        due("27 no room, below", x.row(-1), -4);
        due("27 in the row", x.count(6), 25);
    }

    private static void judge() {
        FoughtFromMemory x = corridor();
        rows(x, 99, 3, 99, 99, 99);
        due("28 stays", x.judge(25), -1);
        due("28 in the row", x.count(6), 5);
        due("28 all so", x.judge(2), -9);
        due("28 none then", x.count(6), 0);
        due("28 none: all so", x.judge(2), -9);
        rows(x, 99, 3, 0, 0);
        due("28 the third", x.judge(2), 2);
        due("28 none then", x.count(6), 0);
        rows(x, 3);
        due("28 the first", x.judge(2), 0);
        rows(x, 99, 99);
        due("28 the second", x.judge(2), 1);
        rows(x, 2, 3);
        due("28 two are said", x.judge(4), -9);
    }

    private static void clear() {
        FoughtFromMemory x = corridor();
        due("29 none", x.clear(), 0);
        rows(x, 5, 6, 7);
        due("29 three", x.clear(), 3);
        due("29 none then", x.clear(), 0);
        due("29 the first", x.row(1), 1);
    }

    private static void lots() {
        FoughtFromMemory x = corridor();
        int z = -5;
        int worth = 0;
        int rooms = 0;
        for (int i = 1; i <= 20; i++) {
            z = z * 1664525 + 1013904223;
            int room = ((z & BIG) >> 8) % 25;
            z = z * 1664525 + 1013904223;
            int speaker = ((z & BIG) >> 8) % 2;
            worth += x.fire(room, speaker, 1);
            rooms += x.fire(room, speaker, 0);
            due("30 worth", x.lots(i, -5, 0), worth);
            due("30 rooms", x.lots(i, -5, 1), rooms);
        }
        due("30 no night goes by", x.count(1), 0);
        due("30 below", x.lots(0, 0, 2), -4);
        due("30 above", x.lots(21, 0, 2), -6);
        due("30 other", x.lots(20, 0, 2) + x.lots(1, 0, -1), -4);
        due("30 without people", new FoughtFromMemory().lots(20, 1, 0), 500);
        FoughtFromMemory y = told("vw00249;rp099;", 2);
        z = 77;
        worth = 0;
        for (int i = 1; i <= 20; i++) {
            z = z * 1664525 + 1013904223;
            worth += y.fire(((z & BIG) >> 8) % 25, 0, 1);
        }
        due("30 no draw of a speaker without people", y.lots(20, 77, 0), worth);
    }

    private static void imageAndOn() {
        FoughtFromMemory x = corridor();
        due("32 there is none", x.on(), -3);
        x.nights(1);
        due("31 night", x.image(), 1);
        x.nights(9);
        x.turn(1, 5, 5);
        x.sharp(0, 9);
        Checks.tell(x, "p7;p8;p9;k224249;");
        rows(x, 1, 2);
        x.letter('p');
        x.room(25, 0);
        due("32 night", x.on(), 1);
        due("32 people", x.count(0), 2);
        due("32 things", x.room(1, 0), 1);
        due("32 figures", x.room(1, 1), 2);
        due("32 sharp", x.person(0, -1), 3);
        due("32 known", x.count(5), 52);
        due("32 the row is not in it", x.count(6), 2);
        due("32 letters are not in it", x.count(7), 1);
        due("32 refusals are not in it", 10 * x.count(11) + x.count(13), 11);
        x.nights(5);
        due("32 once more", x.on(), 1);
        due("31 anew", x.nights(3) + x.image(), 4);
        x.visit(0, 0, 9);
        due("32 the newer one", x.on() + x.person(0, 0), 4);
        Checks.tell(x, "p7;k200249;");
        due("32 one more who knows nothing of another one's", x.on() + Checks.tell(x, "7;p6;"), 4 - 1000);
        due("32 new ones know nothing", Checks.tell(x, "p6;") + x.person(2, 24), 1);
    }

    private static void count() {
        FoughtFromMemory x = corridor();
        int[] want = {2, 0, 29, 20, 24, 52, 0, 0};
        for (int what = 0; what < want.length; what++) {
            due("33 count(" + what + ")", x.count(what), want[what]);
        }
        x.turn(20, 5, 7);
        due("33 doors are walls", x.count(3), 20);
        due("33 a door's worth", x.count(2), 36);
        rows(x, 1, 2, 3);
        x.letter('a');
        due("33 in the row", x.count(6), 3);
        due("33 letters", x.count(7), 1);
        for (int what : new int[] {-1, 8, 9, 10, 17, BIG, SMALL}) {
            due("33 another", x.count(what), -9);
        }
        x.room(25, 0);
        x.room(0, 5);
        x.room(0, 5);
        x.on();
        x.on();
        x.on();
        for (int i = 0; i < 4; i++) {
            x.row(-1);
        }
        for (int i = 0; i < 6; i++) {
            x.row(100);
        }
        int[] refusals = {1, 2, 3, 4, 0, 6};
        for (int i = 0; i < 6; i++) {
            due("33 count(" + (11 + i) + ")", x.count(11 + i), refusals[i]);
        }
    }

    private static void refusalsChangeNothing() {
        FoughtFromMemory x = corridor();
        rows(x, 1);
        x.letter('p');
        x.turn(0, 6, 9);
        x.turn(0, 5, 10);
        x.sharp(0, 10);
        x.visit(0, 0, 10);
        x.nights(61);
        x.judge(25);
        x.row(100);
        x.letter(256);
        x.on();
        due("REFUSALS kind", x.room(0, 0), 0);
        due("REFUSALS sharp", x.person(0, -1), 3);
        due("REFUSALS known", x.count(5), 52);
        due("REFUSALS night", x.count(1), 0);
        due("REFUSALS row", x.count(6), 1);
        due("REFUSALS letters", x.count(7), 1);
    }
}
