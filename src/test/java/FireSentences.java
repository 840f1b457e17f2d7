/** Terms, part I: the kinds of things, a night, a fire. */
final class FireSentences {
    private static final String KIND_LETTERS = "tlspwd";
    private static final int[] NEEDS = {1, 1, 2, 4, 1, 1};
    private static final int[] CATCHES = {2, 1, 3, 3, -9, 4};
    private static final int[] WORTH_OF_0 = {1, 1, 6, 12, 0, 0};
    private static final int[] WORTH_OF_9 = {10, 10, 15, 30, 0, 9};

    private final Sentences s;

    FireSentences(Sentences s) {
        this.s = s;
    }

    void look() {
        s.in("Terms");
        s.says("KINDS of THINGS, how well one must KNOW its ROOM to say it (NEEDS), in how many MINUTES it CATCHES, "
                + "its WORTH:");
        for (int kind = 0; kind < 6; kind++) {
            needsToBeSaid(kind);
            burnsInTime(kind);
            isWorth(kind);
        }
        s.says("t THING: 1; 2; 1 and FIGURE.");
        toldOf(0);
        s.says("l LINEN under THING: 1; 1 less; 1 and FIGURE.");
        toldOf(1);
        s.says("s STAIR under THING: 1 more; 1 more; 5 more.");
        toldOf(2);
        s.says("p PIANO under STAIR: 2 more than a STAIR; as a STAIR's; twice a STAIR's.");
        toldOf(3);
        s.says("w WALL under THING: 1; never; 0.");
        toldOf(4);
        s.says("d DOOR under WALL: as a WALL; 4; FIGURE.");
        toldOf(5);
        above();
        mostToKnow();
        aNight();
        begins();
        saysRound();
        saysWhat();
        saysInTime();
        saysNothing();
        catchesOn();
        ends();
        soonest();
    }

    private static String thing(int kind, int room, int figure) {
        return "r" + KIND_LETTERS.charAt(kind) + (room < 10 ? "0" : "") + room + figure + ";";
    }

    /** Room 1 beside the fire in room 0, all else wall, and one person. */
    private static FoughtFromMemory pair(int kind, int figure) {
        return Sentences.told("vw00240;rt000;" + thing(kind, 1, figure) + "p9;");
    }

    private void needsToBeSaid(int kind) {
        FoughtFromMemory x = pair(kind, 3);
        for (int known = 0; known <= 9; known++) {
            x.visit(0, 1, known);
            boolean said = known >= NEEDS[kind] && CATCHES[kind] > 0;
            s.due("said by one who knows kind " + kind + " by " + known, x.said(0, 0, 1, 0), said ? 1 : -9);
        }
    }

    private void burnsInTime(int kind) {
        FoughtFromMemory x = pair(kind, 3);
        s.due("kind " + kind + " burns", x.burns(0, 0, 1), CATCHES[kind]);
        x.turn(1, 0, 0);
        x.turn(0, kind, 0);
        s.due("a thing beside kind " + kind + " that burns", x.burns(0, 0, 1), 2);
    }

    private void isWorth(int kind) {
        int burns = CATCHES[kind] < 0 ? 0 : 1;
        s.due("worth of figure 0", pair(kind, 0).fire(0, 0, 1), 1 + burns * WORTH_OF_0[kind]);
        s.due("worth of figure 9", pair(kind, 9).fire(0, 0, 1), 1 + burns * WORTH_OF_9[kind]);
        s.due("worth where the fire begins", pair(kind, 9).fire(1, 0, 1), WORTH_OF_9[kind] + 1);
    }

    private void toldOf(int kind) {
        for (int figure = 0; figure <= 9; figure++) {
            FoughtFromMemory x = Sentences.told(thing(kind, 24, figure));
            int each = kind == 3 ? 2 : kind == 4 ? 0 : 1;
            s.due("needs", x.room(24, 2), NEEDS[kind]);
            s.due("catches", x.room(24, 3), CATCHES[kind]);
            s.due("worth of figure " + figure, x.room(24, 4), WORTH_OF_0[kind] + each * figure);
        }
    }

    private void above() {
        s.says("Where it is not told as above them.");
        FoughtFromMemory x = Sentences.told("rt004;rl014;rs024;rp034;rw044;rd054;");
        s.due("a stair catches 1 later than a thing", x.room(2, 3) - x.room(0, 3), 1);
        s.due("a piano as a stair", x.room(3, 3) - x.room(2, 3), 0);
        s.due("a piano's worth by the stair's", x.room(3, 4) - 2 * x.room(2, 4), 0);
        s.due("a door needs what a wall needs", x.room(5, 2) - x.room(4, 2), 0);
    }

    private void mostToKnow() {
        s.says("(9 at most to KNOW.)");
        FoughtFromMemory x = Sentences.told("p1;");
        s.due("9", x.visit(0, 3, 9), 0);
        s.due("10", x.visit(0, 3, 10), -6);
        s.due("9 still", x.person(0, 3), 9);
        for (int kind = 0; kind < 6; kind++) {
            x.turn(3, kind, 9);
            s.due("9 is enough for kind " + kind, x.count(4), 1);
        }
    }

    private void aNight() {
        s.says("A NIGHT: NIGHT is 1 more; whose SHARP divides NIGHT KNOWS each ROOM 1 less (0 at least).");
        for (int sharp = 1; sharp <= 9; sharp++) {
            FoughtFromMemory x = Sentences.told("p" + sharp + ";k000249;k012121;");
            for (int night = 1; night <= 90; night++) {
                x.nights(1);
                s.due("night", x.count(1), night);
                s.due("sharp " + sharp + " knows in night " + night, x.person(0, 24), Math.max(0, 9 - night / sharp));
                s.due("and room 12", x.person(0, 12), Math.max(0, 1 - night / sharp));
            }
            s.due("nothing is left, and nothing less", x.count(5), 0);
        }
        FoughtFromMemory y = Sentences.told("p9;k000009;n08;");
        y.sharp(0, 4);
        y.nights(1);
        s.due("the night divides, not the nights since", y.person(0, 0), 9);
    }

    private void begins() {
        s.says("A FIRE in a ROOM by a first speaker: MINUTE 0 that ROOM BURNS.");
        for (int kind = 0; kind < 6; kind++) {
            FoughtFromMemory x = Sentences.told("p1;k000249;" + thing(kind, 0, 1) + thing(kind, 24, 1));
            s.due("the first room of kind " + kind, x.burns(0, 0, 0), 0);
            s.due("the last room", x.burns(24, 0, 24), 0);
            s.due("is never said, though it is known", x.said(24, 0, 24, 0), -9);
        }
    }

    /** All things alike, fire in room 12: these rooms are said in minutes 1 to 8, whoever speaks. */
    private void saysRound() {
        s.says("In each MINUTE (1, 2, ..): first the speaker (PEOPLE by numbers from the first one on, round)");
        int[] rooms = {7, 11, 8, 14, 15, 19, 20, 24};
        for (int people = 1; people <= 5; people++) {
            StringBuilder letters = new StringBuilder("p9;".repeat(people));
            for (int person = 0; person < people; person++) {
                letters.append("k").append(person).append("00249;");
            }
            FoughtFromMemory x = Sentences.told(letters.toString());
            for (int first = 0; first < people; first++) {
                for (int minute = 1; minute <= 8; minute++) {
                    int room = rooms[minute - 1];
                    String asked = "of " + people + " from " + first + " on in minute " + minute;
                    s.due(asked, x.said(12, first, room, 0), minute);
                    s.due(asked, x.said(12, first, room, 1), (first + minute - 1) % people);
                }
            }
        }
    }

    private void saysWhat() {
        s.says("SAYS the ROOM, of those that BURN not, are not SAID, and that he KNOWS as well as it NEEDS, whose "
                + "SOONEST is least (there is one), of several with most WORTH, of several the least;");
        // Around room 12: above it 7, then 11, 13 and 17.
        FoughtFromMemory x = Sentences.told("vw00240;rt120;rt070;rt110;rt130;rt170;p9;k000249;");
        s.due("all alike: the least", x.said(12, 0, 7, 0), 1);
        s.due("the next one, since that one is said", x.said(12, 0, 11, 0), 2);
        s.due("one that burns is said no more", x.said(12, 0, 13, 0), -9);
        x.turn(17, 0, 1);
        s.due("more worth by 1", x.said(12, 0, 17, 0), 1);
        s.due("then the least", x.said(12, 0, 7, 0), 2);
        x.turn(11, 0, 1);
        s.due("the least of two with most worth", x.said(12, 0, 11, 0), 1);
        s.due("the other one of them", x.said(12, 0, 17, 0), 2);
        x.turn(13, 1, 0);
        s.due("sooner by 1, though worth less", x.said(12, 0, 13, 0), 1);
        x.turn(7, 3, 9);
        s.due("later by 1, though worth most", x.said(12, 0, 7, 0), 3);
        x.visit(0, 7, 4);
        s.due("known just well enough", x.said(12, 0, 7, 0), 3);
        x.visit(0, 7, 3);
        s.due("known less by 1", x.said(12, 0, 7, 0), -9);
        FoughtFromMemory y = Sentences.told("vw00240;rt000;rt020;rp249;p9;k000249;");
        s.due("without a soonest, behind a wall", y.said(0, 0, 2, 0), -9);
        s.due("without a soonest, far off", y.said(0, 0, 24, 0), -9);
        s.due("a wall has none", y.said(0, 0, 1, 0), -9);
        FoughtFromMemory z = Sentences.told("vd00241;p9;k024249;");
        s.due("all burns, the last room at last", z.alone(0), 25);
        z.turn(2, 4, 0);
        z.turn(5, 4, 0);
        z.turn(6, 4, 0);
        s.due("without a soonest in a later fire", z.said(0, 0, 24, 0), -9);
        s.due("though that one goes on for a while", z.fire(0, 0, 2), 4);
    }

    private void saysInTime() {
        s.says("it is SAID: it never BURNS");
        FoughtFromMemory x = Sentences.told("vw00240;rt000;rl010;rt020;p9;p9;p9;k001019;");
        s.due("said in the minute in which it would burn", x.said(0, 0, 1, 0), 1);
        s.due("it never burns", x.burns(0, 0, 1), -9);
        s.due("nor what is behind it", x.burns(0, 0, 2), -9);
        s.due("a minute late", x.said(0, 2, 1, 0), -9);
        s.due("it burns", x.burns(0, 2, 1), 1);
        x.turn(1, 0, 0);
        s.due("in the second minute", x.said(0, 2, 1, 0), 2);
        s.due("just in time", x.burns(0, 2, 1), -9);
        s.due("in the third it is too late", x.burns(0, 1, 1), 2);
    }

    private void saysNothing() {
        s.says("(nothing, if there is none, or no PEOPLE).");
        FoughtFromMemory x = new FoughtFromMemory();
        for (int room = 0; room < 25; room++) {
            s.due("nobody says " + room, x.said(12, 0, room, 0), -9);
            s.due("by nobody", x.said(12, 0, room, 1), -9);
        }
        FoughtFromMemory y = Sentences.told("p9;p9;k100249;");
        s.due("one without a room says nothing in minute 1", y.said(12, 0, 7, 0), 2);
        s.due("nobody else says it for him", y.said(12, 0, 7, 1), 1);
        s.due("nor in minute 3: the next one comes in 4", y.said(12, 0, 6, 0), 4);
        s.due("so three burn in minute 2", y.burns(12, 0, 11) + y.burns(12, 0, 13) + y.burns(12, 0, 17), 6);
    }

    private void catchesOn() {
        s.says("Then each ROOM that BURNS not, is not SAID and is BESIDE one that BURNS for as many MINUTES as it "
                + "CATCHES in, or more, BURNS, too (all at once).");
        FoughtFromMemory x = Sentences.told("vl00240;");
        for (int room = 0; room < 25; room++) {
            s.due("linen, not two in one minute", x.burns(0, 0, room), room / 5 + room % 5);
        }
        FoughtFromMemory y = Sentences.told("vw00240;rt000;rl010;rd020;rs030;rp040;rt090;");
        int[] minutes = {0, 1, 5, 8, 11};
        for (int room = 0; room < 5; room++) {
            s.due("each in its own time behind the one before", y.burns(0, 0, room), minutes[room]);
        }
        s.due("down behind the end of the row", y.burns(0, 0, 9), 13);
        s.due("a wall beside them never", y.burns(0, 0, 5), -9);
        FoughtFromMemory z = Sentences.told("vw00240;rt000;rd010;rl050;rl060;");
        s.due("beside two: by the one that burns first", z.burns(0, 0, 1), 4);
        s.due("by the quicker of two ways", z.burns(0, 0, 6), 2);
        z.turn(0, 4, 0);
        z.turn(1, 3, 0);
        s.due("by the way around a wall", z.burns(5, 0, 1), 4);
        FoughtFromMemory slow = Sentences.told("vd00240;");
        s.due("doors alone: the farthest corner", slow.burns(0, 0, 24), 32);
        FoughtFromMemory snake = Sentences.told("vd00240;rw060;rw070;rw080;rw090;rw150;rw160;rw170;rw180;");
        s.due("doors along two rows", snake.burns(4, 0, 24), 48);
        s.due("doors along the longest way that there is", snake.burns(4, 0, 20), 64);
        s.due("the latest minute", snake.fire(4, 0, 2), 64);
    }

    private void ends() {
        s.says("It ends as nothing more can BURN, if nothing more were said.");
        FoughtFromMemory x = Sentences.told("vw00240;rt000;rt010;rt020;p9;k000249;");
        s.due("the next one is said", x.said(0, 0, 1, 0), 1);
        s.due("then it ends: what is behind it is not said", x.said(0, 0, 2, 0), -9);
        s.due("the last minute is that of the fire's own room", x.fire(0, 0, 2), 0);
        FoughtFromMemory y = Sentences.told("vw00240;rt000;rd010;rd020;" + "p9;".repeat(5));
        s.due("it does not end while something can still burn", y.burns(0, 0, 2), 8);
        y.visit(4, 2, 1);
        s.due("nor before one who comes late can say it", y.said(0, 0, 2, 0), 5);
        FoughtFromMemory z = Sentences.told("vw00240;rp120;p9;k000249;");
        s.due("at once, if nothing is beside it", z.fire(12, 0, 0), 1);
        s.due("nobody says anything then", z.talker(12, 0), -9);
    }

    private void soonest() {
        s.says("SOONEST of a ROOM: the MINUTE in which it would BURN if nothing more were said.");
        // Room 6 would burn in minute 4 by way of linen 1, in 5 by way of thing 5; stair 10 in 5.
        FoughtFromMemory x = Sentences.told("vw00240;rt000;rl010;rt050;rp060;rs109;p9;k001019;k006069;k010109;");
        s.due("the linen first", x.said(0, 0, 1, 0), 1);
        s.due("then both have 5, and the stair is worth more", x.said(0, 0, 10, 0), 2);
        s.due("then the piano", x.said(0, 0, 6, 0), 3);
        x.visit(0, 1, 0);
        s.due("without the linen said the piano has 4", x.said(0, 0, 6, 0), 1);
        s.due("then the stair", x.said(0, 0, 10, 0), 2);
    }
}
