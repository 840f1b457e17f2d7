import java.util.ArrayList;
import java.util.Arrays;
import java.util.List;

/**
 * The document once more, as literally as it can be written and as slowly: each FIRE goes minute by minute over
 * all ROOMS, and SOONEST is found by letting the fire burn on in a copy.
 */
final class PlainModel {
    static class Thing {
        final int figure;

        Thing(int figure) {
            this.figure = figure;
        }

        int number() {
            return 0;
        }

        int needs() {
            return 1;
        }

        int catches() {
            return 2;
        }

        int worth() {
            return 1 + figure;
        }
    }

    static class Linen extends Thing {
        Linen(int figure) {
            super(figure);
        }

        @Override int number() {
            return 1;
        }

        @Override int catches() {
            return super.catches() - 1;
        }
    }

    static class Stair extends Thing {
        Stair(int figure) {
            super(figure);
        }

        @Override int number() {
            return 2;
        }

        @Override int needs() {
            return super.needs() + 1;
        }

        @Override int catches() {
            return super.catches() + 1;
        }

        @Override int worth() {
            return super.worth() + 5;
        }
    }

    static class Piano extends Stair {
        Piano(int figure) {
            super(figure);
        }

        @Override int number() {
            return 3;
        }

        @Override int needs() {
            return super.needs() + 2;
        }

        @Override int worth() {
            return 2 * super.worth();
        }
    }

    static class Wall extends Thing {
        Wall(int figure) {
            super(figure);
        }

        @Override int number() {
            return 4;
        }

        @Override int catches() {
            return -9;
        }

        @Override int worth() {
            return 0;
        }
    }

    static class Door extends Wall {
        Door(int figure) {
            super(figure);
        }

        @Override int number() {
            return 5;
        }

        @Override int catches() {
            return 4;
        }

        @Override int worth() {
            return figure;
        }
    }

    static final class Person {
        int sharp;
        final int[] knows = new int[25];

        Person(int sharp) {
            this.sharp = sharp;
        }

        Person copy() {
            Person p = new Person(sharp);
            System.arraycopy(knows, 0, p.knows, 0, 25);
            return p;
        }
    }

    static final class World {
        final Thing[] things = new Thing[25];
        final List<Person> people = new ArrayList<>();
        int night;

        World() {
            Arrays.fill(things, new Thing(0));
        }

        World copy() {
            World w = new World();
            System.arraycopy(things, 0, w.things, 0, 25);
            for (Person p : people) {
                w.people.add(p.copy());
            }
            w.night = night;
            return w;
        }

        void oneNight() {
            night++;
            for (Person p : people) {
                if (night % p.sharp == 0) {
                    for (int r = 0; r < 25; r++) {
                        if (p.knows[r] > 0) {
                            p.knows[r]--;
                        }
                    }
                }
            }
        }

        boolean well(int person, int room) {
            return people.get(person).knows[room] >= things[room].needs();
        }

        int sure() {
            int n = 0;
            for (int r = 0; r < 25 && !people.isEmpty(); r++) {
                boolean all = true;
                for (int p = 0; p < people.size(); p++) {
                    all &= well(p, r);
                }
                n += all ? 1 : 0;
            }
            return n;
        }

        int nobodys() {
            int n = 0;
            for (int r = 0; r < 25; r++) {
                boolean any = false;
                for (int p = 0; p < people.size(); p++) {
                    any |= well(p, r);
                }
                n += any ? 0 : 1;
            }
            return n;
        }
    }

    private static final List<List<Integer>> BESIDE = new ArrayList<>();

    static {
        for (int r = 0; r < 25; r++) {
            List<Integer> beside = new ArrayList<>();
            for (int q = 0; q < 25; q++) {
                if (Math.abs(q / 5 - r / 5) + Math.abs(q % 5 - r % 5) == 1) {
                    beside.add(q);
                }
            }
            BESIDE.add(beside);
        }
    }

    /** One FIRE, told to its end. */
    static final class Fire {
        final World w;
        int[] burns = new int[25];
        final int[] said = new int[25];
        final int[] by = new int[25];

        Fire(World w, int room, List<Integer> speakers, int silentMinutes) {
            this.w = w;
            Arrays.fill(burns, -9);
            Arrays.fill(said, -9);
            Arrays.fill(by, -9);
            burns[room] = 0;
            for (int minute = 1; ; minute++) {
                int[] soonest = soonest(minute);
                boolean more = false;
                for (int r = 0; r < 25; r++) {
                    more |= burns[r] < 0 && soonest[r] >= 0;
                }
                if (!more) {
                    return;
                }
                boolean silent = minute <= 31 && (silentMinutes & 1 << minute - 1) != 0;
                if (!speakers.isEmpty() && !silent) {
                    int speaker = speakers.get((minute - 1) % speakers.size());
                    int room2 = choice(speaker, soonest);
                    if (room2 >= 0) {
                        said[room2] = minute;
                        by[room2] = speaker;
                    }
                }
                burns = after(minute, burns);
            }
        }

        private int choice(int speaker, int[] soonest) {
            int best = -1;
            for (int r = 0; r < 25; r++) {
                if (burns[r] >= 0 || said[r] >= 0 || soonest[r] < 0 || !w.well(speaker, r)) {
                    continue;
                }
                if (best < 0 || soonest[r] < soonest[best]
                        || soonest[r] == soonest[best] && w.things[r].worth() > w.things[best].worth()) {
                    best = r;
                }
            }
            return best;
        }

        private int[] soonest(int from) {
            int[] then = burns.clone();
            // No THING is slower than 4 MINUTES: 5 without a change are the last.
            for (int minute = from, still = 0; still < 5; minute++) {
                int[] next = after(minute, then);
                still = Arrays.equals(next, then) ? still + 1 : 0;
                then = next;
            }
            return then;
        }

        private int[] after(int minute, int[] before) {
            int[] then = before.clone();
            for (int r = 0; r < 25; r++) {
                int catches = w.things[r].catches();
                if (before[r] >= 0 || said[r] >= 0 || catches < 0) {
                    continue;
                }
                for (int q : BESIDE.get(r)) {
                    if (before[q] >= 0 && minute - before[q] >= catches) {
                        then[r] = minute;
                    }
                }
            }
            return then;
        }

        int rooms() {
            int n = 0;
            for (int b : burns) {
                n += b >= 0 ? 1 : 0;
            }
            return n;
        }

        int worth() {
            int n = 0;
            for (int r = 0; r < 25; r++) {
                n += burns[r] >= 0 ? w.things[r].worth() : 0;
            }
            return n;
        }

        int last() {
            return Arrays.stream(burns).max().getAsInt();
        }
    }

    World now = new World();
    World image;
    final List<Integer> row = new ArrayList<>();
    StringBuilder letters = new StringBuilder();
    final int[] refusals = new int[7];

    static Thing thing(int kind, int figure) {
        switch (kind) {
            case 1: return new Linen(figure);
            case 2: return new Stair(figure);
            case 3: return new Piano(figure);
            case 4: return new Wall(figure);
            case 5: return new Door(figure);
            default: return new Thing(figure);
        }
    }

    private int no(int number) {
        refusals[-number]++;
        return number;
    }

    private boolean room(int r) {
        return 0 <= r && r <= 24;
    }

    private boolean person(int p) {
        return 0 <= p && p < now.people.size();
    }

    private boolean speaker(int p) {
        return person(p) || now.people.isEmpty() && p == 0;
    }

    static List<Integer> round(World w, int first) {
        List<Integer> order = new ArrayList<>();
        for (int i = 0; i < w.people.size(); i++) {
            order.add((first + i) % w.people.size());
        }
        return order;
    }

    static List<Integer> only(int bits) {
        List<Integer> order = new ArrayList<>();
        for (int i = 0; i < 5; i++) {
            if ((bits & 1 << i) != 0) {
                order.add(i);
            }
        }
        return order;
    }

    static Fire fire(World w, int room, int first) {
        return new Fire(w, room, round(w, first), 0);
    }

    long call(String name, int... a) {
        switch (name) {
            case "letter": return letter(a[0]);
            case "house": return house();
            case "room": return aRoom(a[0], a[1]);
            case "person": return aPerson(a[0], a[1]);
            case "turn": return turn(a[0], a[1], a[2]);
            case "sharp": return sharp(a[0], a[1]);
            case "visit": return visit(a[0], a[1], a[2]);
            case "nights": return nights(a[0]);
            case "fire": return aFire(a[0], a[1], a[2]);
            case "burns": return burns(a[0], a[1], a[2]);
            case "said": return said(a[0], a[1], a[2], a[3]);
            case "talker": return talker(a[0], a[1]);
            case "alone": return !room(a[0]) ? no(-1) : new Fire(now, a[0], List.of(), 0).worth();
            case "bestSpeaker": return !room(a[0]) ? no(-1) : captainOf(a[0], a[0], 0);
            case "worstRoom": return worstRoom();
            case "show": return show(a[0], a[1]);
            case "mayWait": return mayWait(a[0]);
            case "leftOut": return leftOut(a[0]);
            case "enough": return enough(a[0]);
            case "wall": return wall(a[0]);
            case "captain": return captain(a[0], a[1], a[2]);
            case "unlike": return unlike(a[0], a[1], a[2]);
            case "sure": return a[0] == 0 ? now.sure() : a[0] == 1 ? now.nobodys() : no(-2);
            case "slip": return slip(a[0], a[1], a[2], a[3], a[4]);
            case "whatWas": return whatWas(a[0], a[1], a[2]);
            case "row": return row(a[0]);
            case "judge": return judge(a[0]);
            case "clear": return clear();
            case "lots": return lots(a[0], a[1], a[2]);
            case "image":
                image = now.copy();
                return now.night;
            case "on":
                if (image == null) {
                    return no(-3);
                }
                now = image.copy();
                return now.night;
            case "count": return count(a[0]);
            default: throw new IllegalStateException(name);
        }
    }

    private int letter(int c) {
        if (c < 0) return no(-4);
        if (c > 255 || letters.length() == 96) return no(-6);
        letters.append((char) c);
        return letters.length();
    }

    private int house() {
        String s = letters.toString();
        letters = new StringBuilder();
        List<Integer> starts = new ArrayList<>();
        int at = 0;
        do {
            starts.add(at);
            String shape = at < s.length() ? shape(s.charAt(at)) : null;
            if (shape == null) return -1000 - at;
            for (char sign : shape.toCharArray()) {
                if (at >= s.length()) return -1000 - at;
                char c = s.charAt(at);
                boolean fits = sign == '#' ? "0123456789".indexOf(c) >= 0
                        : sign == '?' ? "tlspwd".indexOf(c) >= 0 : c == sign;
                if (!fits) return -1000 - at;
                at++;
            }
        } while (at < s.length());
        World w = now.copy();
        for (int start : starts) {
            if (!statement(w, s.substring(start, s.indexOf(';', start)))) return -2000 - start;
        }
        now = w;
        return starts.size();
    }

    private static String shape(char c) {
        switch (c) {
            case 'r': return "r?###;";
            case 'v': return "v?#####;";
            case 'p': return "p#;";
            case 'k': return "k######;";
            case 'n': return "n##;";
            default: return null;
        }
    }

    private static boolean statement(World w, String s) {
        char c = s.charAt(0);
        if (c == 'p') {
            int sharp = Integer.parseInt(s.substring(1));
            if (sharp == 0 || w.people.size() == 5) return false;
            w.people.add(new Person(sharp));
            return true;
        }
        if (c == 'n') {
            int n = Integer.parseInt(s.substring(1));
            if (n < 1 || n > 60 || w.night + n > 999) return false;
            for (int i = 0; i < n; i++) {
                w.oneNight();
            }
            return true;
        }
        int from = Integer.parseInt(s.substring(2, 4));
        int to = c == 'r' ? from : Integer.parseInt(s.substring(4, 6));
        int last = s.charAt(s.length() - 1) - '0';
        if (from > 24 || to > 24 || from > to) return false;
        int who = s.charAt(1) - '0';
        if (c == 'k' && who >= w.people.size()) return false;
        for (int r = from; r <= to; r++) {
            if (c == 'k') {
                w.people.get(who).knows[r] = last;
            } else {
                w.things[r] = thing("tlspwd".indexOf(s.charAt(1)), last);
            }
        }
        return true;
    }

    private int aRoom(int r, int what) {
        if (!room(r)) return no(-1);
        Thing t = now.things[r];
        switch (what) {
            case 0: return t.number();
            case 1: return t.figure;
            case 2: return t.needs();
            case 3: return t.catches();
            case 4: return t.worth();
            default: return no(-2);
        }
    }

    private int aPerson(int p, int r) {
        if (!person(p) || r != -1 && !room(r)) return no(-1);
        return r == -1 ? now.people.get(p).sharp : now.people.get(p).knows[r];
    }

    private int turn(int r, int kind, int figure) {
        if (!room(r)) return no(-1);
        if (kind < 0 || kind > 5) return no(-2);
        if (figure < 0) return no(-4);
        if (figure > 9) return no(-6);
        Thing was = now.things[r];
        now.things[r] = thing(kind, figure);
        return 10 * was.number() + was.figure;
    }

    private int sharp(int p, int v) {
        if (!person(p)) return no(-1);
        if (v < 1) return no(-4);
        if (v > 9) return no(-6);
        int was = now.people.get(p).sharp;
        now.people.get(p).sharp = v;
        return was;
    }

    private int visit(int p, int r, int v) {
        if (!person(p) || !room(r)) return no(-1);
        if (v < 0) return no(-4);
        if (v > 9) return no(-6);
        int was = now.people.get(p).knows[r];
        now.people.get(p).knows[r] = v;
        return was;
    }

    private int nights(int n) {
        if (n < 1) return no(-4);
        if (n > 60 || now.night + n > 999) return no(-6);
        for (int i = 0; i < n; i++) {
            now.oneNight();
        }
        return now.sure();
    }

    private int aFire(int r, int p, int what) {
        if (!room(r) || !speaker(p)) return no(-1);
        if (what < 0 || what > 2) return no(-2);
        Fire f = fire(now, r, p);
        return what == 0 ? f.rooms() : what == 1 ? f.worth() : f.last();
    }

    private int burns(int r, int p, int other) {
        if (!room(r) || !speaker(p) || !room(other)) return no(-1);
        return fire(now, r, p).burns[other];
    }

    private int said(int r, int p, int other, int what) {
        if (!room(r) || !speaker(p) || !room(other)) return no(-1);
        if (what < 0 || what > 1) return no(-2);
        Fire f = fire(now, r, p);
        return what == 0 ? f.said[other] : f.by[other];
    }

    private int talker(int r, int p) {
        if (!room(r) || !speaker(p)) return no(-1);
        int[] times = new int[5];
        for (int who : fire(now, r, p).by) {
            if (who >= 0) times[who]++;
        }
        int best = 0;
        for (int i = 1; i < 5; i++) {
            if (times[i] > times[best]) best = i;
        }
        return times[best] == 0 ? -9 : best;
    }

    private int worstRoom() {
        int best = 0;
        for (int r = 1; r < 25; r++) {
            if (fire(now, r, 0).worth() > fire(now, best, 0).worth()) best = r;
        }
        return best;
    }

    private int show(int r, int p) {
        if (!room(r) || !person(p)) return no(-1);
        int least = fire(now, r, 0).worth();
        int best = -9;
        for (int shown = 0; shown < 25; shown++) {
            World w = now.copy();
            w.people.get(p).knows[shown] = 9;
            int worth = fire(w, r, 0).worth();
            if (worth < least) {
                least = worth;
                best = shown;
            }
        }
        return best;
    }

    private int mayWait(int r) {
        if (!room(r)) return no(-1);
        World w = now.copy();
        for (int n = 0; n <= 99; n++) {
            if (fire(w, r, 0).worth() > fire(now, r, 0).worth()) return n;
            w.oneNight();
        }
        return -9;
    }

    private int leftOut(int r) {
        if (!room(r)) return no(-1);
        int most = -1;
        int best = -9;
        for (int p = 0; p < now.people.size(); p++) {
            List<Integer> others = round(now, 0);
            others.remove(p);
            int worth = new Fire(now, r, others, 0).worth();
            if (worth > most) {
                most = worth;
                best = p;
            }
        }
        return best;
    }

    private int enough(int r) {
        if (!room(r)) return no(-1);
        int all = fire(now, r, 0).worth();
        for (int size = 0; size <= now.people.size(); size++) {
            for (int bits = 0; bits < 1 << now.people.size(); bits++) {
                if (Integer.bitCount(bits) == size && new Fire(now, r, only(bits), 0).worth() <= all) return bits;
            }
        }
        throw new IllegalStateException();
    }

    private int wall(int r) {
        if (!room(r)) return no(-1);
        int least = fire(now, r, 0).worth();
        int best = -9;
        for (int built = 0; built < 25; built++) {
            World w = now.copy();
            w.things[built] = new Wall(0);
            int worth = fire(w, r, 0).worth();
            if (built != r && worth < least) {
                least = worth;
                best = built;
            }
        }
        return best;
    }

    private int captainOf(int one, int other, int what) {
        int least = -9;
        int best = -9;
        for (int p = 0; p < now.people.size(); p++) {
            int worth = Math.max(fire(now, one, p).worth(), fire(now, other, p).worth());
            if (best < 0 || worth < least) {
                least = worth;
                best = p;
            }
        }
        return what == 0 ? best : least;
    }

    private int captain(int one, int other, int what) {
        if (!room(one) || !room(other) || one == other) return no(-1);
        if (what < 0 || what > 1) return no(-2);
        return captainOf(one, other, what);
    }

    private int unlike(int one, int other, int what) {
        if (!person(one) || !person(other) || one == other) return no(-1);
        if (what < 0 || what > 1) return no(-2);
        int n = 0;
        int first = -9;
        for (int r = 24; r >= 0; r--) {
            if (now.well(one, r) && !now.well(other, r)) {
                n++;
                first = r;
            }
        }
        return what == 0 ? n : first;
    }

    private long slip(int r, int n, int t, int v, int part) {
        int refusal = !room(r) ? -1 : n < 0 || v < 0 || t < 2 ? -4 : n > 7 || t > 20 || v > 999 ? -6
                : part < 0 || part > 1 ? -2 : 0;
        if (refusal != 0) return 4000000000000000000L - no(refusal);
        java.math.BigInteger above = java.math.BigInteger.ZERO;
        for (int silent = 0; silent < 1 << n; silent++) {
            if (new Fire(now, r, round(now, 0), silent).worth() <= v) {
                above = above.add(java.math.BigInteger.valueOf(t - 1).pow(n - Integer.bitCount(silent)));
            }
        }
        java.math.BigInteger below = java.math.BigInteger.valueOf(t).pow(n);
        return (part == 0 ? above : below).divide(above.gcd(below)).longValueExact();
    }

    private int whatWas(int r, int other, int what) {
        if (!room(r) || !room(other)) return no(-1);
        if (what < 0 || what > 1) return no(-2);
        int bits = 0;
        for (int i = 0; i < (what == 0 ? 6 : 10); i++) {
            World w = now.copy();
            Thing was = w.things[other];
            w.things[other] = what == 0 ? thing(i, was.figure) : thing(was.number(), i);
            Fire f = fire(w, r, 0);
            boolean so = true;
            for (int j = 0; j < row.size(); j++) {
                so &= row.get(j) == (f.burns[j] < 0 ? 99 : f.burns[j]);
            }
            bits |= so ? 1 << i : 0;
        }
        return bits;
    }

    private int row(int v) {
        if (v < 0) return no(-4);
        if (v > 99 || row.size() == 25) return no(-6);
        row.add(v);
        return row.size();
    }

    private int judge(int r) {
        if (!room(r)) return no(-1);
        Fire f = fire(now, r, 0);
        int first = -9;
        for (int j = row.size() - 1; j >= 0; j--) {
            int due = 99;
            for (int q = 0; q < 25; q++) {
                if (f.said[q] == j + 1) due = q;
            }
            if (row.get(j) != due) first = j;
        }
        row.clear();
        return first;
    }

    private int clear() {
        int had = row.size();
        row.clear();
        return had;
    }

    private int lots(int n, int z, int what) {
        if (n < 1) return no(-4);
        if (n > 20) return no(-6);
        if (what < 0 || what > 1) return no(-2);
        int sum = 0;
        for (int i = 0; i < n; i++) {
            z = z * 1664525 + 1013904223;
            int r = (z & 0x7fffffff) / 256 % 25;
            int p = 0;
            if (!now.people.isEmpty()) {
                z = z * 1664525 + 1013904223;
                p = (z & 0x7fffffff) / 256 % now.people.size();
            }
            Fire f = fire(now, r, p);
            sum += what == 0 ? f.worth() : f.rooms();
        }
        return sum;
    }

    private int count(int what) {
        int n = 0;
        switch (what) {
            case 0: return now.people.size();
            case 1: return now.night;
            case 2:
                for (Thing t : now.things) n += t.worth();
                return n;
            case 3:
                for (Thing t : now.things) n += t instanceof Wall ? 1 : 0;
                return n;
            case 4: return 25 - now.nobodys();
            case 5:
                for (Person p : now.people) n += Arrays.stream(p.knows).sum();
                return n;
            case 6: return row.size();
            case 7: return letters.length();
            default: return what >= 11 && what <= 16 ? refusals[what - 10] : -9;
        }
    }
}
