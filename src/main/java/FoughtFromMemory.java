/** Fires that are fought from memory; ../shared/DOC.md tells in numbered promises what each method answers. */
public final class FoughtFromMemory {
    private static final int SIDE = 5;
    private static final int ROOMS = 25;
    private static final int MOST_PEOPLE = 5;
    private static final int MOST_LETTERS = 96;
    private static final int MOST_ROW = 25;
    private static final int MOST_FIGURE = 9;
    private static final int MOST_KNOWN = 9;
    private static final int MOST_SHARP = 9;
    private static final int LAST_NIGHT = 999;
    private static final int MOST_NIGHTS = 60;
    private static final int MOST_WAITING = 99;
    private static final int MOST_LETTER = 255;
    private static final int MOST_LOTS = 20;
    private static final int MOST_SLIPS = 7;
    private static final int MOST_ODDS = 20;
    private static final int MOST_SLIP_WORTH = 999;
    private static final int ROW_NONE = 99;
    private static final int NONE = -9;
    private static final int ALL_BUT_SIGN = 0x7fffffff;

    private static final int NOBODY = -1;
    private static final int OTHER = -2;
    private static final int STATE = -3;
    private static final int BELOW = -4;
    private static final int NO_ROOM = -6;
    private static final int REFUSAL_NUMBERS = 6;
    private static final long REFUSED_LONG = 4000000000000000000L;

    private static final int KINDS = 6;
    private static final int LINEN = 1;
    private static final int STAIR = 2;
    private static final int PIANO = 3;
    private static final int WALL = 4;
    private static final int DOOR = 5;
    private static final String KIND_LETTERS = "tlspwd";

    private final House house;
    private final House kept;
    private final House trial;
    private final Blaze blaze;
    private final Telling telling;
    private final Numbers row;
    private final int[] refusals;
    private boolean imageTaken;

    public FoughtFromMemory() {
        house = new House();
        kept = new House();
        trial = new House();
        blaze = new Blaze();
        telling = new Telling();
        row = new Numbers(MOST_ROW);
        refusals = new int[REFUSAL_NUMBERS + 1];
        imageTaken = false;
    }

    public int letter(int c) {
        if (c < 0) {
            return refuse(BELOW);
        }
        if (c > MOST_LETTER || telling.letters.isFull()) {
            return refuse(NO_ROOM);
        }
        return telling.letters.add(c);
    }

    public int house() {
        trial.become(house);
        int answer = telling.tellTo(trial);
        telling.letters.forget();
        if (answer >= 0) {
            house.become(trial);
        }
        return answer;
    }

    public int room(int room, int what) {
        if (!isRoom(room)) {
            return refuse(NOBODY);
        }
        switch (what) {
            case 0:
                return house.kindOf(room);
            case 1:
                return house.figureOf(room);
            case 2:
                return house.needsOf(room);
            case 3:
                return house.catchesOf(room);
            case 4:
                return house.worthOf(room);
            default:
                return refuse(OTHER);
        }
    }

    public int person(int person, int room) {
        if (!isPerson(person) || (room != -1 && !isRoom(room))) {
            return refuse(NOBODY);
        }
        return room == -1 ? house.sharpOf(person) : house.knownBy(person, room);
    }

    public int turn(int room, int kind, int figure) {
        if (!isRoom(room)) {
            return refuse(NOBODY);
        }
        if (kind < 0 || kind >= KINDS) {
            return refuse(OTHER);
        }
        if (figure < 0) {
            return refuse(BELOW);
        }
        if (figure > MOST_FIGURE) {
            return refuse(NO_ROOM);
        }
        int before = 10 * house.kindOf(room) + house.figureOf(room);
        house.put(room, kind, figure);
        return before;
    }

    public int sharp(int person, int v) {
        if (!isPerson(person)) {
            return refuse(NOBODY);
        }
        if (v < 1) {
            return refuse(BELOW);
        }
        if (v > MOST_SHARP) {
            return refuse(NO_ROOM);
        }
        int before = house.sharpOf(person);
        house.sharpen(person, v);
        return before;
    }

    public int visit(int person, int room, int v) {
        if (!isPerson(person) || !isRoom(room)) {
            return refuse(NOBODY);
        }
        if (v < 0) {
            return refuse(BELOW);
        }
        if (v > MOST_KNOWN) {
            return refuse(NO_ROOM);
        }
        int before = house.knownBy(person, room);
        house.learn(person, room, v);
        return before;
    }

    public int nights(int n) {
        if (n < 1) {
            return refuse(BELOW);
        }
        if (n > MOST_NIGHTS || house.night + n > LAST_NIGHT) {
            return refuse(NO_ROOM);
        }
        house.passNights(n);
        return house.sureRooms();
    }

    public int fire(int room, int speaker, int what) {
        if (!isRoom(room) || !isSpeaker(speaker)) {
            return refuse(NOBODY);
        }
        if (what < 0 || what > 2) {
            return refuse(OTHER);
        }
        burnAsNow(room, speaker);
        if (what == 0) {
            return blaze.roomsBurnt();
        }
        return what == 1 ? blaze.worthBurnt() : blaze.lastMinute();
    }

    public int burns(int room, int speaker, int other) {
        if (!isRoom(room) || !isSpeaker(speaker) || !isRoom(other)) {
            return refuse(NOBODY);
        }
        burnAsNow(room, speaker);
        return blaze.minuteBurnt(other);
    }

    public int said(int room, int speaker, int other, int what) {
        if (!isRoom(room) || !isSpeaker(speaker) || !isRoom(other)) {
            return refuse(NOBODY);
        }
        if (what != 0 && what != 1) {
            return refuse(OTHER);
        }
        burnAsNow(room, speaker);
        int minute = blaze.minuteSaid(other);
        return what == 0 ? minute : blaze.speakerIn(minute);
    }

    public int talker(int room, int speaker) {
        if (!isRoom(room) || !isSpeaker(speaker)) {
            return refuse(NOBODY);
        }
        burnAsNow(room, speaker);
        int best = NONE;
        int most = 0;
        for (int person = 0; person < house.people; person++) {
            int times = blaze.timesSpoken(person);
            if (times > most) {
                most = times;
                best = person;
            }
        }
        return best;
    }

    public int alone(int room) {
        if (!isRoom(room)) {
            return refuse(NOBODY);
        }
        blaze.lookAt(house);
        return worthWithOnly(room, 0);
    }

    public int bestSpeaker(int room) {
        if (!isRoom(room)) {
            return refuse(NOBODY);
        }
        return bestAgainst(room, room);
    }

    public int worstRoom() {
        blaze.lookAt(house);
        int worst = 0;
        int most = -1;
        for (int room = 0; room < ROOMS; room++) {
            int worth = worthBy(room, 0);
            if (worth > most) {
                most = worth;
                worst = room;
            }
        }
        return worst;
    }

    public int show(int room, int person) {
        if (!isRoom(room) || !isPerson(person)) {
            return refuse(NOBODY);
        }
        int least = worthIn(house, room);
        int best = NONE;
        trial.become(house);
        for (int shown = 0; shown < ROOMS; shown++) {
            trial.learn(person, shown, MOST_KNOWN);
            int worth = worthIn(trial, room);
            if (worth < least) {
                least = worth;
                best = shown;
            }
            trial.learn(person, shown, house.knownBy(person, shown));
        }
        return best;
    }

    public int mayWait(int room) {
        if (!isRoom(room)) {
            return refuse(NOBODY);
        }
        int now = worthIn(house, room);
        trial.become(house);
        for (int gone = 1; gone <= MOST_WAITING; gone++) {
            trial.passNights(1);
            if (worthIn(trial, room) > now) {
                return gone;
            }
        }
        return NONE;
    }

    public int leftOut(int room) {
        if (!isRoom(room)) {
            return refuse(NOBODY);
        }
        blaze.lookAt(house);
        int everyone = (1 << house.people) - 1;
        int missed = NONE;
        int most = -1;
        for (int person = 0; person < house.people; person++) {
            int worth = worthWithOnly(room, everyone & ~(1 << person));
            if (worth > most) {
                most = worth;
                missed = person;
            }
        }
        return missed;
    }

    public int enough(int room) {
        if (!isRoom(room)) {
            return refuse(NOBODY);
        }
        int bound = worthIn(house, room);
        int everyone = (1 << house.people) - 1;
        int fewest = everyone;
        for (int some = 0; some < everyone; some++) {
            if (Integer.bitCount(some) < Integer.bitCount(fewest) && worthWithOnly(room, some) <= bound) {
                fewest = some;
            }
        }
        return fewest;
    }

    public int wall(int room) {
        if (!isRoom(room)) {
            return refuse(NOBODY);
        }
        int least = worthIn(house, room);
        int best = NONE;
        trial.become(house);
        for (int built = 0; built < ROOMS; built++) {
            if (built == room) {
                continue;
            }
            trial.put(built, WALL, 0);
            int worth = worthIn(trial, room);
            if (worth < least) {
                least = worth;
                best = built;
            }
            trial.put(built, house.kindOf(built), house.figureOf(built));
        }
        return best;
    }

    public int captain(int one, int other, int what) {
        if (!isRoom(one) || !isRoom(other) || one == other) {
            return refuse(NOBODY);
        }
        if (what != 0 && what != 1) {
            return refuse(OTHER);
        }
        int chosen = bestAgainst(one, other);
        if (what == 0 || chosen == NONE) {
            return chosen;
        }
        return Math.max(worthBy(one, chosen), worthBy(other, chosen));
    }

    public int unlike(int one, int other, int what) {
        if (!isPerson(one) || !isPerson(other) || one == other) {
            return refuse(NOBODY);
        }
        if (what != 0 && what != 1) {
            return refuse(OTHER);
        }
        int rooms = house.roomsSayableBy(one) & ~house.roomsSayableBy(other);
        if (what == 0) {
            return Integer.bitCount(rooms);
        }
        return firstOf(rooms);
    }

    public int sure(int what) {
        if (what == 0) {
            return house.sureRooms();
        }
        if (what == 1) {
            return ROOMS - house.somebodysRooms();
        }
        return refuse(OTHER);
    }

    public long slip(int room, int n, int t, int v, int part) {
        if (!isRoom(room)) {
            return refuseLong(NOBODY);
        }
        if (n < 0 || v < 0 || t < 2) {
            return refuseLong(BELOW);
        }
        if (n > MOST_SLIPS || t > MOST_ODDS || v > MOST_SLIP_WORTH) {
            return refuseLong(NO_ROOM);
        }
        if (part != 0 && part != 1) {
            return refuseLong(OTHER);
        }
        long above = slipsWithin(room, n, t, v);
        long below = power(t, n);
        long common = commonDivisor(above, below);
        if (common < 1) {
            return 0;
        }
        return (part == 0 ? above : below) / common;
    }

    public int whatWas(int room, int other, int what) {
        if (!isRoom(room) || !isRoom(other)) {
            return refuse(NOBODY);
        }
        if (what != 0 && what != 1) {
            return refuse(OTHER);
        }
        trial.become(house);
        int choices = what == 0 ? KINDS : MOST_FIGURE + 1;
        int fitting = 0;
        for (int choice = 0; choice < choices; choice++) {
            if (what == 0) {
                trial.put(other, choice, house.figureOf(other));
            } else {
                trial.put(other, house.kindOf(other), choice);
            }
            if (burnsAsRowTells(room)) {
                fitting |= 1 << choice;
            }
        }
        return fitting;
    }

    public int row(int v) {
        if (v < 0) {
            return refuse(BELOW);
        }
        if (v > ROW_NONE || row.isFull()) {
            return refuse(NO_ROOM);
        }
        return row.add(v);
    }

    public int judge(int room) {
        if (!isRoom(room)) {
            return refuse(NOBODY);
        }
        burnAsNow(room, 0);
        int wrong = NONE;
        for (int place = 0; place < row.told && wrong == NONE; place++) {
            if (row.at(place) != asRowTells(blaze.roomSaidIn(place + 1))) {
                wrong = place;
            }
        }
        row.forget();
        return wrong;
    }

    public int clear() {
        int had = row.told;
        row.forget();
        return had;
    }

    public int lots(int n, int z, int what) {
        if (n < 1) {
            return refuse(BELOW);
        }
        if (n > MOST_LOTS) {
            return refuse(NO_ROOM);
        }
        if (what != 0 && what != 1) {
            return refuse(OTHER);
        }
        blaze.lookAt(house);
        int seed = z;
        int sum = 0;
        for (int i = 0; i < n; i++) {
            seed = seedAfter(seed);
            int room = drawn(seed, ROOMS);
            int speaker = 0;
            if (house.people > 0) {
                seed = seedAfter(seed);
                speaker = drawn(seed, house.people);
            }
            int worth = worthBy(room, speaker);
            sum += what == 0 ? worth : blaze.roomsBurnt();
        }
        return sum;
    }

    public int image() {
        kept.become(house);
        imageTaken = true;
        return house.night;
    }

    public int on() {
        if (!imageTaken) {
            return refuse(STATE);
        }
        house.become(kept);
        return house.night;
    }

    public int count(int what) {
        switch (what) {
            case 0:
                return house.people;
            case 1:
                return house.night;
            case 2:
                return house.allWorth();
            case 3:
                return house.walls();
            case 4:
                return house.somebodysRooms();
            case 5:
                return house.allKnown();
            case 6:
                return row.told;
            case 7:
                return telling.letters.told;
            default:
                return what > 10 && what <= 10 + REFUSAL_NUMBERS ? refusals[what - 10] : NONE;
        }
    }

    private int refuse(int number) {
        int place = -number;
        if (place >= 1 && place <= REFUSAL_NUMBERS) {
            refusals[place]++;
        }
        return number;
    }

    private long refuseLong(int number) {
        return REFUSED_LONG - refuse(number);
    }

    private static boolean isRoom(int room) {
        return room >= 0 && room < ROOMS;
    }

    private boolean isPerson(int person) {
        return house.hasPerson(person);
    }

    private boolean isSpeaker(int speaker) {
        return house.people == 0 ? speaker == 0 : isPerson(speaker);
    }

    private void burnAsNow(int room, int speaker) {
        blaze.lookAt(house);
        blaze.letAllSpeak(speaker);
        blaze.burn(room, 0);
    }

    private int worthIn(House some, int room) {
        blaze.lookAt(some);
        return worthBy(room, 0);
    }

    private int worthBy(int room, int speaker) {
        blaze.letAllSpeak(speaker);
        blaze.burn(room, 0);
        return blaze.worthBurnt();
    }

    private int worthWithOnly(int room, int some) {
        blaze.letSpeak(0, some);
        blaze.burn(room, 0);
        return blaze.worthBurnt();
    }

    private int bestAgainst(int one, int other) {
        blaze.lookAt(house);
        int best = NONE;
        int least = 0;
        for (int person = 0; person < house.people; person++) {
            int worth = Math.max(worthBy(one, person), worthBy(other, person));
            if (best == NONE || worth < least) {
                least = worth;
                best = person;
            }
        }
        return best;
    }

    /** Of t to the n equally likely ways to be silent or not, how many burn v or less. */
    private long slipsWithin(int room, int n, int t, int v) {
        blaze.lookAt(house);
        blaze.letAllSpeak(0);
        long ways = 0;
        for (int silent = 0; silent < 1 << n; silent++) {
            blaze.burn(room, silent);
            if (blaze.worthBurnt() <= v) {
                ways += power(t - 1, n - Integer.bitCount(silent));
            }
        }
        return ways;
    }

    private static long power(int base, int times) {
        long product = 1;
        for (int i = 0; i < times; i++) {
            product *= base;
        }
        return product;
    }

    private static long commonDivisor(long one, long other) {
        long a = one;
        long b = other;
        // Euclid's rests shrink to half in two steps: a long has none left long before 200.
        for (int i = 0; i < 200 && b != 0; i++) {
            long rest = a % b;
            a = b;
            b = rest;
        }
        return a;
    }

    private boolean burnsAsRowTells(int room) {
        blaze.lookAt(trial);
        blaze.letAllSpeak(0);
        blaze.burn(room, 0);
        for (int place = 0; place < row.told; place++) {
            if (row.at(place) != asRowTells(blaze.minuteBurnt(place))) {
                return false;
            }
        }
        return true;
    }

    private static int firstOf(int rooms) {
        for (int room = 0; room < ROOMS; room++) {
            if ((rooms >> room & 1) == 1) {
                return room;
            }
        }
        return NONE;
    }

    private static int asRowTells(int number) {
        return number == NONE ? ROW_NONE : number;
    }

    private static int seedAfter(int seed) {
        return seed * 1664525 + 1013904223;
    }

    private static int drawn(int seed, int below) {
        return below < 1 ? 0 : (seed & ALL_BUT_SIGN) / 256 % below;
    }

    /** What is asked of a THING of each KIND; a KIND that a case leaves out is as the one above it. */
    private static final class Kinds {
        private Kinds() {
        }

        static int needs(int kind) {
            switch (kind) {
                case STAIR:
                    return 2;
                case PIANO:
                    return 4;
                default:
                    return 1;
            }
        }

        static int catches(int kind) {
            switch (kind) {
                case LINEN:
                    return 1;
                case STAIR:
                case PIANO:
                    return 3;
                case WALL:
                    return NONE;
                case DOOR:
                    return 4;
                default:
                    return 2;
            }
        }

        static int worth(int kind, int figure) {
            switch (kind) {
                case STAIR:
                    return 6 + figure;
                case PIANO:
                    return 2 * (6 + figure);
                case WALL:
                    return 0;
                case DOOR:
                    return figure;
                default:
                    return 1 + figure;
            }
        }
    }

    /** All that an image keeps: what stands in the ROOMS, what the PEOPLE KNOW, the NIGHT. */
    private static final class House {
        private final int[] kinds;
        private final int[] figures;
        private final int[] sharps;
        private final int[] known;
        private int people;
        private int night;

        House() {
            kinds = new int[ROOMS];
            figures = new int[ROOMS];
            sharps = new int[MOST_PEOPLE];
            known = new int[MOST_PEOPLE * ROOMS];
            people = 0;
            night = 0;
        }

        void become(House other) {
            System.arraycopy(other.kinds, 0, kinds, 0, ROOMS);
            System.arraycopy(other.figures, 0, figures, 0, ROOMS);
            System.arraycopy(other.sharps, 0, sharps, 0, MOST_PEOPLE);
            System.arraycopy(other.known, 0, known, 0, MOST_PEOPLE * ROOMS);
            people = other.people;
            night = other.night;
        }

        boolean hasPerson(int person) {
            return person >= 0 && person < people && person < MOST_PEOPLE;
        }

        int kindOf(int room) {
            return isRoom(room) ? kinds[room] : NONE;
        }

        int figureOf(int room) {
            return isRoom(room) ? figures[room] : NONE;
        }

        int needsOf(int room) {
            return Kinds.needs(kindOf(room));
        }

        int catchesOf(int room) {
            return Kinds.catches(kindOf(room));
        }

        int worthOf(int room) {
            return Kinds.worth(kindOf(room), figureOf(room));
        }

        int sharpOf(int person) {
            return hasPerson(person) ? sharps[person] : NONE;
        }

        int knownBy(int person, int room) {
            return hasPerson(person) && isRoom(room) ? known[person * ROOMS + room] : NONE;
        }

        void put(int room, int kind, int figure) {
            if (isRoom(room)) {
                kinds[room] = kind;
                figures[room] = figure;
            }
        }

        void sharpen(int person, int sharp) {
            if (hasPerson(person)) {
                sharps[person] = sharp;
            }
        }

        void learn(int person, int room, int howWell) {
            if (hasPerson(person) && isRoom(room)) {
                known[person * ROOMS + room] = howWell;
            }
        }

        boolean takeIn(int sharp) {
            if (people >= MOST_PEOPLE) {
                return false;
            }
            int person = people;
            people++;
            sharpen(person, sharp);
            for (int room = 0; room < ROOMS; room++) {
                learn(person, room, 0);
            }
            return true;
        }

        void passNights(int n) {
            for (int i = 0; i < n; i++) {
                night++;
                for (int person = 0; person < people; person++) {
                    int sharp = sharpOf(person);
                    if (sharp > 0 && night % sharp == 0) {
                        forgetSome(person);
                    }
                }
            }
        }

        private void forgetSome(int person) {
            if (!hasPerson(person)) {
                return;
            }
            for (int room = 0; room < ROOMS; room++) {
                int place = person * ROOMS + room;
                known[place] = Math.max(0, known[place] - 1);
            }
        }

        int roomsSayableBy(int person) {
            int rooms = 0;
            if (!hasPerson(person)) {
                return rooms;
            }
            for (int room = 0; room < ROOMS; room++) {
                if (known[person * ROOMS + room] >= Kinds.needs(kinds[room])) {
                    rooms |= 1 << room;
                }
            }
            return rooms;
        }

        int sureRooms() {
            int rooms = people == 0 ? 0 : (1 << ROOMS) - 1;
            for (int person = 0; person < people; person++) {
                rooms &= roomsSayableBy(person);
            }
            return Integer.bitCount(rooms);
        }

        int somebodysRooms() {
            int rooms = 0;
            for (int person = 0; person < people; person++) {
                rooms |= roomsSayableBy(person);
            }
            return Integer.bitCount(rooms);
        }

        int allWorth() {
            int sum = 0;
            for (int room = 0; room < ROOMS; room++) {
                sum += worthOf(room);
            }
            return sum;
        }

        int walls() {
            int walls = 0;
            for (int room = 0; room < ROOMS; room++) {
                if (kindOf(room) == WALL || kindOf(room) == DOOR) {
                    walls++;
                }
            }
            return walls;
        }

        int allKnown() {
            int sum = 0;
            for (int person = 0; person < people; person++) {
                for (int room = 0; room < ROOMS; room++) {
                    sum += knownBy(person, room);
                }
            }
            return sum;
        }
    }

    /** Numbers that are told one by one, so many at most. */
    private static final class Numbers {
        private final int[] numbers;
        private int told;

        Numbers(int most) {
            numbers = new int[Math.max(0, most)];
            told = 0;
        }

        boolean isFull() {
            return told >= numbers.length;
        }

        int add(int number) {
            if (told >= 0 && told < numbers.length) {
                numbers[told] = number;
                told++;
            }
            return told;
        }

        int at(int place) {
            return place >= 0 && place < told && place < numbers.length ? numbers[place] : NONE;
        }

        void forget() {
            told = 0;
        }
    }

    /** The letters of a HOUSE and what they say. */
    private static final class Telling {
        private static final int STRAY = -1000;
        private static final int AMISS = -2000;

        private final Numbers letters;

        Telling() {
            letters = new Numbers(MOST_LETTERS);
        }

        /** How many STATEMENTS changed this house, or the FAULT, with which it is of no use any more. */
        int tellTo(House some) {
            int stray = firstStray();
            if (stray != NONE) {
                return STRAY - stray;
            }
            int place = 0;
            int statements = 0;
            while (place < letters.told && statements < MOST_LETTERS) {
                if (!tellStatement(place, some)) {
                    return AMISS - place;
                }
                place += formOf(letters.at(place)).length();
                statements++;
            }
            return statements;
        }

        private int firstStray() {
            if (letters.told == 0) {
                return 0;
            }
            int place = 0;
            for (int i = 0; i < MOST_LETTERS && place < letters.told; i++) {
                String form = formOf(letters.at(place));
                int fitting = fittingLetters(form, place);
                if (form.isEmpty() || fitting < form.length()) {
                    return place + fitting;
                }
                place += fitting;
            }
            return NONE;
        }

        private int fittingLetters(String form, int place) {
            for (int i = 0; i < form.length(); i++) {
                if (!fits(letters.at(place + i), form.charAt(i))) {
                    return i;
                }
            }
            return form.length();
        }

        private static boolean fits(int letter, char sign) {
            switch (sign) {
                case 'K':
                    return kindOfLetter(letter) != NONE;
                case '0':
                    return letter >= '0' && letter <= '9';
                default:
                    return letter == sign;
            }
        }

        /** K stands for a letter of a KIND, 0 for a digit. */
        private static String formOf(int letter) {
            switch (letter) {
                case 'r':
                    return "rK000;";
                case 'v':
                    return "vK00000;";
                case 'p':
                    return "p0;";
                case 'k':
                    return "k000000;";
                case 'n':
                    return "n00;";
                default:
                    return "";
            }
        }

        private boolean tellStatement(int place, House some) {
            switch (letters.at(place)) {
                case 'r':
                    return tellThings(place, pairAt(place + 2), digitAt(place + 4), some);
                case 'v':
                    return tellThings(place, pairAt(place + 4), digitAt(place + 6), some);
                case 'p':
                    return digitAt(place + 1) >= 1 && some.takeIn(digitAt(place + 1));
                case 'k':
                    return tellKnown(place, some);
                case 'n':
                    return tellNights(pairAt(place + 1), some);
                default:
                    return false;
            }
        }

        private boolean tellThings(int place, int last, int figure, House some) {
            int kind = kindOfLetter(letters.at(place + 1));
            int first = pairAt(place + 2);
            if (first > last || last >= ROOMS) {
                return false;
            }
            for (int room = first; room <= last; room++) {
                some.put(room, kind, figure);
            }
            return true;
        }

        private boolean tellKnown(int place, House some) {
            int person = digitAt(place + 1);
            int first = pairAt(place + 2);
            int last = pairAt(place + 4);
            if (!some.hasPerson(person) || first > last || last >= ROOMS) {
                return false;
            }
            for (int room = first; room <= last; room++) {
                some.learn(person, room, digitAt(place + 6));
            }
            return true;
        }

        private static boolean tellNights(int n, House some) {
            if (n < 1 || n > MOST_NIGHTS || some.night + n > LAST_NIGHT) {
                return false;
            }
            some.passNights(n);
            return true;
        }

        private static int kindOfLetter(int letter) {
            for (int kind = 0; kind < KIND_LETTERS.length(); kind++) {
                if (KIND_LETTERS.charAt(kind) == letter) {
                    return kind;
                }
            }
            return NONE;
        }

        private int digitAt(int place) {
            return letters.at(place) - '0';
        }

        private int pairAt(int place) {
            return 10 * digitAt(place) + digitAt(place + 1);
        }
    }

    /**
     * A FIRE. Sets of ROOMS are bits of an int. What it would come to if nothing more were said stands ready
     * minute by minute, so that SOONEST need only be looked up; a ROOM that is said changes nothing before its
     * own SOONEST, so only the minutes from there on are reckoned again.
     */
    private static final class Blaze {
        private static final int EVERY_ROOM = (1 << ROOMS) - 1;
        private static final int LEFT_COLUMN = 0x108421;
        private static final int RIGHT_COLUMN = LEFT_COLUMN << (SIDE - 1);
        private static final int SLOWEST = 4;
        /** 24 ROOMS burn at most SLOWEST minutes each behind one before it; behind the last one come SLOWEST more. */
        private static final int MINUTES = ROOMS * SLOWEST + 1;

        private final int[] catching;
        private final int[] worths;
        private final int[] sayable;
        private final int[] order;
        private final int[] fresh;
        private final int[] burning;
        private final int[] beside;
        private final int[] saidIn;
        private int people;
        private int speakers;
        private int saidRooms;
        private int lastFresh;
        private int spokenMinutes;

        Blaze() {
            catching = new int[SLOWEST + 1];
            worths = new int[ROOMS];
            sayable = new int[MOST_PEOPLE];
            order = new int[MOST_PEOPLE];
            fresh = new int[MINUTES];
            burning = new int[MINUTES];
            beside = new int[MINUTES];
            saidIn = new int[MINUTES];
        }

        void lookAt(House some) {
            for (int i = 0; i <= SLOWEST; i++) {
                catching[i] = 0;
            }
            for (int room = 0; room < ROOMS; room++) {
                int kind = some.kinds[room];
                worths[room] = Kinds.worth(kind, some.figures[room]);
                int minutes = Kinds.catches(kind);
                if (minutes > 0 && minutes <= SLOWEST) {
                    catching[minutes] |= 1 << room;
                }
            }
            people = Math.min(some.people, MOST_PEOPLE);
            for (int person = 0; person < people; person++) {
                sayable[person] = some.roomsSayableBy(person);
            }
        }

        void letAllSpeak(int first) {
            letSpeak(first, (1 << people) - 1);
        }

        void letSpeak(int first, int some) {
            speakers = 0;
            for (int i = 0; i < people; i++) {
                int person = Math.floorMod(first + i, people);
                if ((some >> person & 1) == 1 && speakers < MOST_PEOPLE) {
                    order[speakers] = person;
                    speakers++;
                }
            }
        }

        /** Bit i of silent: whoever's turn it is in minute i + 1 says nothing. */
        void burn(int room, int silent) {
            saidRooms = 0;
            fresh[0] = 1 << room;
            burning[0] = fresh[0];
            beside[0] = allBeside(burning[0]);
            spreadFrom(1);
            int minute = 1;
            while (minute < MINUTES && minute <= lastFresh) {
                boolean isSilent = minute <= MOST_SLIPS && (silent >> (minute - 1) & 1) == 1;
                saidIn[minute] = isSilent ? NONE : speak(minute);
                minute++;
            }
            spokenMinutes = minute - 1;
        }

        private int speak(int minute) {
            int able = sayableBy(speakerIn(minute));
            for (int soonest = minute; soonest <= lastFresh && soonest < MINUTES; soonest++) {
                int room = dearest(fresh[soonest] & able);
                if (room != NONE) {
                    saidRooms |= 1 << room;
                    spreadFrom(soonest);
                    return room;
                }
            }
            return NONE;
        }

        private int sayableBy(int person) {
            return person >= 0 && person < people ? sayable[person] : 0;
        }

        private int dearest(int some) {
            int best = NONE;
            int most = -1;
            for (int room = 0; room < ROOMS && some >> room != 0; room++) {
                if ((some >> room & 1) == 1 && worths[room] > most) {
                    most = worths[room];
                    best = room;
                }
            }
            return best;
        }

        private void spreadFrom(int start) {
            if (start < 1 || start >= MINUTES) {
                return;
            }
            lastFresh = start - 1;
            while (lastFresh > 0 && fresh[lastFresh] == 0) {
                lastFresh--;
            }
            for (int minute = start; minute < MINUTES && minute <= lastFresh + SLOWEST; minute++) {
                int next = caughtIn(minute) & ~burning[minute - 1] & ~saidRooms;
                fresh[minute] = next;
                burning[minute] = burning[minute - 1] | next;
                beside[minute] = allBeside(burning[minute]);
                if (next != 0) {
                    lastFresh = minute;
                }
            }
        }

        private int caughtIn(int minute) {
            int caught = 0;
            for (int ago = 1; ago <= SLOWEST; ago++) {
                if (minute >= ago && minute - ago < MINUTES) {
                    caught |= catching[ago] & beside[minute - ago];
                }
            }
            return caught;
        }

        private static boolean isMinute(int minute) {
            return minute >= 0 && minute < MINUTES;
        }

        private static int allBeside(int some) {
            int across = (some & ~RIGHT_COLUMN) << 1 | (some & ~LEFT_COLUMN) >> 1;
            return (across | some << SIDE | some >> SIDE) & EVERY_ROOM;
        }

        int roomsBurnt() {
            return Integer.bitCount(burnt());
        }

        int worthBurnt() {
            int burnt = burnt();
            int sum = 0;
            for (int room = 0; room < ROOMS; room++) {
                if ((burnt >> room & 1) == 1) {
                    sum += worths[room];
                }
            }
            return sum;
        }

        private int burnt() {
            return isMinute(lastFresh) ? burning[lastFresh] : 0;
        }

        int lastMinute() {
            return lastFresh;
        }

        int minuteBurnt(int room) {
            for (int minute = 0; minute < MINUTES && minute <= lastFresh; minute++) {
                if ((fresh[minute] >> room & 1) == 1) {
                    return minute;
                }
            }
            return NONE;
        }

        int roomSaidIn(int minute) {
            return minute >= 1 && minute <= spokenMinutes && isMinute(minute) ? saidIn[minute] : NONE;
        }

        int minuteSaid(int room) {
            for (int minute = 1; minute <= spokenMinutes; minute++) {
                if (roomSaidIn(minute) == room) {
                    return minute;
                }
            }
            return NONE;
        }

        int speakerIn(int minute) {
            if (minute < 1 || speakers < 1 || speakers > MOST_PEOPLE) {
                return NONE;
            }
            return order[(minute - 1) % speakers];
        }

        int timesSpoken(int person) {
            int times = 0;
            for (int minute = 1; minute <= spokenMinutes; minute++) {
                if (roomSaidIn(minute) != NONE && speakerIn(minute) == person) {
                    times++;
                }
            }
            return times;
        }
    }
}
