import java.util.Arrays;
import java.util.Random;

/** Runs of drawn calls on the program and on PlainModel: every answer must be the same. */
public final class DrawnRunsTest {
    private static final int RUNS = 400;
    private static final int CALLS = 110;

    private final Random random;
    private final FoughtFromMemory program = new FoughtFromMemory();
    private final PlainModel model = new PlainModel();
    private final Checks checks;
    private final StringBuilder told = new StringBuilder();

    private DrawnRunsTest(long seed, Checks checks) {
        random = new Random(seed);
        this.checks = checks;
    }

    public static void main(String[] args) {
        Checks checks = new Checks("DrawnRunsTest");
        for (int run = 0; run < RUNS && checks.wrong() < 5; run++) {
            new DrawnRunsTest(run, checks).go(run);
        }
        checks.end();
    }

    private void go(int run) {
        if (run % 8 != 0) {
            tellPeople();
        }
        if (run % 7 != 0) {
            tellRooms();
        }
        for (int i = 0; i < CALLS; i++) {
            switch (random.nextInt(16)) {
                case 0: tellRooms(); break;
                case 1: tellPeople(); break;
                case 2: tellFaulty(); break;
                case 3: tellTrueRow(); break;
                case 4: doAny("visit"); break;
                case 5: doAny(random.nextBoolean() ? "turn" : "slip"); break;
                default: doAny(Face.NAMES[random.nextInt(Face.NAMES.length)]);
            }
        }
        for (int what = -1; what < 18; what++) {
            both("count", what);
        }
    }

    private long both(String name, int... a) {
        String call = name + Arrays.toString(a);
        told.append(' ').append(call);
        long got = Face.call(program, name, a);
        long want = model.call(name, a);
        checks.due(call, got, want);
        if (got != want) {
            System.out.println("behind" + told);
        }
        return want;
    }

    private void doAny(String name) {
        String kinds = Face.ARGUMENTS[Arrays.asList(Face.NAMES).indexOf(name)];
        int[] a = new int[kinds.length()];
        for (int i = 0; i < a.length; i++) {
            a[i] = argument(kinds.charAt(i));
        }
        both(name, a);
    }

    private int argument(char kind) {
        boolean astray = random.nextInt(30) == 0;
        switch (kind) {
            case 'r': return astray ? between(-3, 27) : between(0, 24);
            case 'p': return astray ? between(-2, 6) : random.nextInt(Math.max(1, (int) model.call("count", 0)));
            case 'w': return astray ? between(-2, 5) : between(0, 1);
            case 'k': return astray ? between(-2, 7) : between(0, 5);
            case 'd': return astray ? between(-2, 11) : between(0, 9);
            case 'c': return astray ? between(-2, 258) : "rvpkn0123456789;tlswd".charAt(random.nextInt(21));
            case 'n': return astray ? between(-1, 62) : between(1, 7);
            case 't': return astray ? between(0, 22) : between(2, 20);
            case 'v': return astray ? between(-2, 1001) : between(0, 90);
            case 'm': return astray ? between(-2, 101) : random.nextBoolean() ? 99 : between(0, 24);
            case 'l': return astray ? between(-1, 22) : between(1, 20);
            case 'z': return random.nextInt();
            default: return between(-1, 18);
        }
    }

    private int between(int least, int most) {
        return least + random.nextInt(most - least + 1);
    }

    private void tell(String letters) {
        for (char c : letters.toCharArray()) {
            both("letter", c);
        }
        both("house");
    }

    private String pair() {
        int one = random.nextInt(25);
        int other = random.nextInt(25);
        return String.format("%02d%02d", Math.min(one, other), Math.max(one, other));
    }

    private String aKind() {
        return "" + "tlspwd".charAt(random.nextInt(6));
    }

    private void tellRooms() {
        StringBuilder s = new StringBuilder();
        int statements = between(1, 8);
        for (int i = 0; i < statements; i++) {
            s.append(random.nextInt(3) == 0 ? "v" + aKind() + pair() + between(0, 9) + ";"
                    : String.format("r%s%02d%d;", aKind(), between(0, 24), between(0, 9)));
        }
        tell(s.toString());
    }

    private void tellPeople() {
        StringBuilder s = new StringBuilder();
        int people = between(1, 4);
        for (int i = 0; i < people; i++) {
            s.append("p").append(between(1, 9)).append(";");
        }
        for (int i = 0; i < 2 * people; i++) {
            s.append("k").append(between(0, people - 1)).append(i < people ? "0024" : pair()).append(between(0, 9)).append(";");
        }
        if (random.nextInt(4) == 0) {
            s.append(String.format("n%02d;", between(1, 60)));
        }
        tell(s.length() > 96 ? s.substring(0, 96) : s.toString());
    }

    private void tellFaulty() {
        String fine = "p3;rs075;vw10120;k000249;n07;";
        StringBuilder s = new StringBuilder(fine.substring(0, between(0, fine.length())));
        int changes = random.nextInt(2);
        for (int i = 0; i < changes && s.length() > 0; i++) {
            s.setCharAt(random.nextInt(s.length()), "rvpkn0123456789;tlswdx".charAt(random.nextInt(22)));
        }
        tell(s.toString());
    }

    /** A ROW that is right but for one number at times, since a drawn one is right too seldom. */
    private void tellTrueRow() {
        both("clear");
        int room = random.nextInt(25);
        boolean ofBurning = random.nextBoolean();
        PlainModel.Fire fire = PlainModel.fire(model.now, room, 0);
        int numbers = between(1, 25);
        int astray = random.nextInt(40);
        for (int i = 0; i < numbers; i++) {
            int due = ofBurning ? fire.burns[i] : saidIn(fire, i + 1);
            both("row", i == astray ? between(0, 99) : due < 0 ? 99 : due);
        }
        if (ofBurning) {
            both("whatWas", room, random.nextInt(25), 0);
            both("whatWas", room, random.nextInt(25), 1);
        } else {
            both("judge", room);
        }
    }

    private static int saidIn(PlainModel.Fire fire, int minute) {
        for (int r = 0; r < 25; r++) {
            if (fire.said[r] == minute) {
                return r;
            }
        }
        return -9;
    }
}
