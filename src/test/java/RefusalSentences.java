/** Terms, part II: the image and the refusals. */
final class RefusalSentences {
    private static final long LONGS = 4000000000000000000L;
    /** For each call the refusals in their order: as many wrong arguments as can be, then one wrong thing fewer. */
    private static final String[] REFUSED = {
        "letter -1 = -4", "letter 256 = -6",
        "room 25 5 = -1", "room 24 5 = -2",
        "person 2 25 = -1", "person 0 25 = -1", "person 0 -2 = -1", "person 2 -1 = -1",
        "turn 25 6 -1 = -1", "turn 25 6 10 = -1", "turn 24 6 -1 = -2", "turn 24 6 10 = -2", "turn 24 5 -1 = -4",
        "turn 24 5 10 = -6",
        "sharp 2 0 = -1", "sharp 2 10 = -1", "sharp 1 0 = -4", "sharp 1 10 = -6",
        "visit 2 25 -1 = -1", "visit 0 25 -1 = -1", "visit 2 0 10 = -1", "visit 1 24 -1 = -4", "visit 1 24 10 = -6",
        "nights 0 = -4", "nights 61 = -6",
        "fire 25 2 3 = -1", "fire 25 1 3 = -1", "fire 24 2 3 = -1", "fire 24 1 3 = -2",
        "burns 25 2 25 = -1", "burns 25 1 24 = -1", "burns 24 2 24 = -1", "burns 24 1 25 = -1",
        "said 25 2 25 2 = -1", "said 25 1 24 2 = -1", "said 24 2 24 2 = -1", "said 24 1 25 2 = -1",
        "said 24 1 24 2 = -2",
        "talker 25 2 = -1", "talker 25 1 = -1", "talker 24 2 = -1",
        "alone 25 = -1", "bestSpeaker 25 = -1", "mayWait 25 = -1", "leftOut 25 = -1", "enough 25 = -1", "wall 25 = -1",
        "show 25 2 = -1", "show 25 1 = -1", "show 24 2 = -1",
        "captain 25 25 2 = -1", "captain 25 24 2 = -1", "captain 24 25 2 = -1", "captain 24 24 2 = -1",
        "captain 24 0 2 = -2",
        "unlike 2 2 2 = -1", "unlike 2 1 2 = -1", "unlike 1 2 2 = -1", "unlike 1 1 2 = -1", "unlike 1 0 2 = -2",
        "sure 2 = -2",
        "slip 25 -1 1 -1 2 = -1", "slip 25 8 21 1000 2 = -1", "slip 24 -1 21 1000 2 = -4", "slip 24 8 1 1000 2 = -4",
        "slip 24 8 21 -1 2 = -4", "slip 24 8 2 0 2 = -6", "slip 24 0 21 0 2 = -6", "slip 24 0 2 1000 2 = -6",
        "slip 24 0 2 0 2 = -2",
        "whatWas 25 25 2 = -1", "whatWas 25 24 2 = -1", "whatWas 24 25 2 = -1", "whatWas 24 24 2 = -2",
        "row -1 = -4", "row 100 = -6",
        "judge 25 = -1",
        "lots 0 0 2 = -4", "lots 21 0 2 = -6", "lots 20 0 2 = -2",
        "on = -3"};
    /** These have no refusal at all. */
    private static final String UNREFUSED = " house worstRoom clear image count ";

    private final Sentences s;

    RefusalSentences(Sentences s) {
        this.s = s;
    }

    void look() {
        s.in("Terms");
        image();
        on();
        refusals();
        s.says("-1 NOBODY: no such ROOM, one of PEOPLE.");
        refusedBy(-1);
        s.says("-2 OTHER: what, KIND.");
        refusedBy(-2);
        s.says("-3 STATE: it is not as it must be.");
        refusedBy(-3);
        s.says("-4 BELOW: a number below the least.");
        refusedBy(-4);
        s.says("-6 ROOM: a number above the greatest, no room.");
        refusedBy(-6);
        full();
        longs();
    }

    /** Two people, three numbers in the row, two letters, a night, all kinds of things. */
    private static FoughtFromMemory some() {
        FoughtFromMemory x = Sentences.told("rt009;rl018;rs027;rp036;rw045;rd054;p3;p2;k000247;k105125;n01;");
        x.row(9);
        x.row(99);
        x.row(0);
        x.letter('p');
        x.letter('4');
        return x;
    }

    /** All that can be asked, the row and the letters by using them up. */
    private static String allOf(FoughtFromMemory x) {
        StringBuilder all = new StringBuilder();
        for (int what = 0; what <= 7; what++) {
            all.append(x.count(what)).append(' ');
        }
        for (int room = 0; room < 25; room++) {
            all.append(x.room(room, 0)).append(x.room(room, 1));
            for (int person = 0; person < x.count(0); person++) {
                all.append(x.person(person, room));
            }
            all.append(' ');
        }
        for (int person = 0; person < x.count(0); person++) {
            all.append(x.person(person, -1)).append(' ');
        }
        for (int room = 0; room < 25; room += 6) {
            all.append(x.whatWas(room, 12, 0)).append(' ');
        }
        all.append(x.judge(0)).append(' ');
        all.append(x.letter(';')).append(' ').append(x.house()).append(' ').append(x.person(2, -1));
        return all.toString();
    }

    private void image() {
        s.says("THE IMAGE: all that there is, but it, the ROW, letters, REFUSALS;");
        FoughtFromMemory x = some();
        x.image();
        x.row(98);
        x.letter('x');
        x.room(25, 0);
        x.on();
        s.due("the row is as now", x.count(6), 4);
        s.due("the letters are as now", x.count(7), 3);
        s.due("the refusals are as now", x.count(11), 1);
        s.due("the image is there still", x.on(), 1);
        x.clear();
        x.house();
        s.due("neither row", x.on() + x.count(6), 1);
        s.due("nor letters come back", x.count(7), 0);
    }

    private void on() {
        s.says("ON from it all is as then.");
        FoughtFromMemory empty = new FoughtFromMemory();
        empty.image();
        Checks.tell(empty, "vp00249;p1;k000249;n60;");
        s.due("a new house again: its night", empty.on(), 0);
        s.due("its people", empty.count(0), 0);
        s.due("its things", empty.count(2), 25);
        s.due("nobody to know anything", empty.count(5), 0);
        FoughtFromMemory x = some();
        FoughtFromMemory then = some();
        x.image();
        x.turn(0, 5, 1);
        x.turn(24, 1, 1);
        x.sharp(0, 9);
        x.visit(1, 24, 9);
        x.nights(60);
        x.on();
        s.holds("as then", allOf(x).equals(allOf(then)));
        FoughtFromMemory y = some();
        y.image();
        y.house();
        Checks.tell(y, "p5;p6;p7;k200249;");
        y.on();
        s.due("two people again", y.count(0), 2);
        s.due("the next one knows nothing", Checks.tell(y, "p8;") + y.person(2, 24), 1);
        s.due("and has his own sharpness", y.person(2, -1), 8);
    }

    private void refusals() {
        s.says("REFUSALS (the call answers the number, the first that fits in the order in which it tells them; "
                + "nothing changes but how many there were):");
        String untouched = allOf(some());
        StringBuilder names = new StringBuilder(UNREFUSED);
        for (String refused : REFUSED) {
            FoughtFromMemory x = some();
            s.due(refused, calledBy(x, refused), answerOf(refused));
            for (int number = 1; number <= 6; number++) {
                s.due(refused + ": refusals -" + number, x.count(10 + number), number == -numberOf(refused) ? 1 : 0);
            }
            s.holds(refused + " changes nothing", allOf(x).equals(untouched));
            names.append(nameOf(refused)).append(' ');
        }
        for (String name : Face.NAMES) {
            s.holds(name + " is looked at", names.indexOf(" " + name + " ") >= 0);
        }
        FoughtFromMemory y = some();
        y.worstRoom();
        y.clear();
        y.image();
        y.house();
        y.count(-1);
        y.count(17);
        for (int what = 11; what <= 16; what++) {
            s.due("these are never refused", y.count(what), 0);
        }
    }

    private void refusedBy(int number) {
        FoughtFromMemory x = some();
        int times = 0;
        for (String refused : REFUSED) {
            if (numberOf(refused) == number) {
                s.due(refused, calledBy(x, refused), answerOf(refused));
                times++;
                s.due("counted", x.count(10 - number), times);
            }
        }
    }

    private void full() {
        FoughtFromMemory x = Sentences.told("p1;p1;p1;p1;p1;");
        for (int i = 0; i < 96; i++) {
            x.letter('p');
        }
        for (int i = 0; i < 25; i++) {
            x.row(24);
        }
        Sentences.pass(x, 999);
        s.due("letters", x.letter('p'), -6);
        s.due("row", x.row(24), -6);
        s.due("nights", x.nights(1), -6);
        s.due("three refusals", x.count(16), 3);
        s.due("letters as before", x.count(7), 96);
        s.due("row as before", x.count(6), 25);
        s.due("night as before", x.count(1), 999);
        s.due("below goes before no room", x.letter(-1) + x.row(-1) + x.nights(0), -12);
        s.due("three others", x.count(14), 3);
    }

    private void longs() {
        s.says("Of longs 4000000000000000000 less them (-1 as 4000000000000000001).");
        FoughtFromMemory x = some();
        s.due("-1", x.slip(25, 0, 2, 0, 0), 4000000000000000001L);
        s.due("-2", x.slip(24, 0, 2, 0, 2), 4000000000000000002L);
        s.due("-4", x.slip(24, -1, 2, 0, 0), 4000000000000000004L);
        s.due("-6", x.slip(24, 8, 2, 0, 0), 4000000000000000006L);
        s.due("counted like the others", 1000 * x.count(11) + 100 * x.count(12) + 10 * x.count(14) + x.count(16), 1111);
    }

    private static String nameOf(String refused) {
        return refused.substring(0, refused.indexOf(' '));
    }

    private static int numberOf(String refused) {
        return Integer.parseInt(refused.substring(refused.indexOf('=') + 2));
    }

    private static long answerOf(String refused) {
        return nameOf(refused).equals("slip") ? LONGS - numberOf(refused) : numberOf(refused);
    }

    private static long calledBy(FoughtFromMemory x, String refused) {
        String[] words = refused.substring(0, refused.indexOf(" =")).split(" ");
        int[] arguments = new int[words.length - 1];
        for (int i = 0; i < arguments.length; i++) {
            arguments[i] = Integer.parseInt(words[i + 1]);
        }
        return Face.call(x, words[0], arguments);
    }
}
