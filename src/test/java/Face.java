/** Calls of the face by name, so that runs can be drawn. */
final class Face {
    static final String[] NAMES = {"letter", "house", "room", "person", "turn", "sharp", "visit", "nights", "fire",
        "burns", "said", "talker", "alone", "bestSpeaker", "worstRoom", "show", "mayWait", "leftOut", "enough", "wall",
        "captain", "unlike", "sure", "slip", "whatWas", "row", "judge", "clear", "lots", "image", "on", "count"};
    /** What each argument is: r a ROOM, p a person, w a what, k a KIND, d a digit, and the like. */
    static final String[] ARGUMENTS = {"c", "", "rw", "pr", "rkd", "pd", "prd", "n", "rpw", "rpr", "rprw", "rp", "r", "r",
        "", "rp", "r", "r", "r", "r", "rrw", "ppw", "w", "rntvw", "rrw", "m", "r", "", "lzw", "", "", "q"};

    private Face() {
    }

    static long call(FoughtFromMemory x, String name, int... a) {
        switch (name) {
            case "letter": return x.letter(a[0]);
            case "house": return x.house();
            case "room": return x.room(a[0], a[1]);
            case "person": return x.person(a[0], a[1]);
            case "turn": return x.turn(a[0], a[1], a[2]);
            case "sharp": return x.sharp(a[0], a[1]);
            case "visit": return x.visit(a[0], a[1], a[2]);
            case "nights": return x.nights(a[0]);
            case "fire": return x.fire(a[0], a[1], a[2]);
            case "burns": return x.burns(a[0], a[1], a[2]);
            case "said": return x.said(a[0], a[1], a[2], a[3]);
            case "talker": return x.talker(a[0], a[1]);
            case "alone": return x.alone(a[0]);
            case "bestSpeaker": return x.bestSpeaker(a[0]);
            case "worstRoom": return x.worstRoom();
            case "show": return x.show(a[0], a[1]);
            case "mayWait": return x.mayWait(a[0]);
            case "leftOut": return x.leftOut(a[0]);
            case "enough": return x.enough(a[0]);
            case "wall": return x.wall(a[0]);
            case "captain": return x.captain(a[0], a[1], a[2]);
            case "unlike": return x.unlike(a[0], a[1], a[2]);
            case "sure": return x.sure(a[0]);
            case "slip": return x.slip(a[0], a[1], a[2], a[3], a[4]);
            case "whatWas": return x.whatWas(a[0], a[1], a[2]);
            case "row": return x.row(a[0]);
            case "judge": return x.judge(a[0]);
            case "clear": return x.clear();
            case "lots": return x.lots(a[0], a[1], a[2]);
            case "image": return x.image();
            case "on": return x.on();
            case "count": return x.count(a[0]);
            default: throw new IllegalStateException(name);
        }
    }
}
