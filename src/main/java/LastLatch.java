import java.util.Arrays;
import java.util.NoSuchElementException;

/** Each door leads to the one shut last: see README.md and the document's numbered promises. */
public final class LastLatch {
    public static final int NONE = -1;

    /** Answered where nothing is told, and where something can't be. */
    private static final int CANT = -2;

    private static final int MOST_DOORS = 4;
    private static final int MOST_PEOPLE = 2;
    private static final int MOST_BYTES = 800;
    private static final int BYTES_A_FEED = 20;
    private static final int MOST_KEPT = 16;
    private static final int MOST_IMAGES = 3;
    private static final int MOST_ROW = 6;
    private static final int MOST_MOVES = 4;
    private static final int MOST_DRAUGHT = 9;
    private static final int MOST_TIMES = 3;
    private static final int MOST_DRAWS = 60;
    private static final int SEEDS = 65537;
    private static final int HUNDRED = 100;

    private static final int PLAIN = 0;
    private static final int SPRING = 1;
    private static final int HEAVY = 2;
    private static final int STUCK = 3;

    private static final int NONE_SUCH = 1;
    private static final int BAD_NUMBER = 2;
    private static final int NO_ROOM = 3;
    private static final int BAD_TEXT = 4;
    private static final int NOT_SO = 5;
    private static final int CANT_BE = 6;

    private final byte[] tape;
    private int tapeLength;
    private int trouble;
    private int fault;
    private int place;
    private Told told;
    private final Hall here;
    private final int[] past;
    private int pastCount;
    private final int[] images;
    private int imageCount;
    private final Search walk;
    private int walkScene;
    private final Search spare;
    private final Rows sightings;
    private final Contest contest;
    private final Gusts gusts;

    public LastLatch() {
        tape = new byte[MOST_BYTES];
        told = new Told();
        here = new Hall();
        past = new int[MOST_KEPT];
        images = new int[MOST_IMAGES];
        walk = new Search();
        walkScene = NONE;
        spare = new Search();
        sightings = new Rows();
        contest = new Contest();
        gusts = new Gusts();
    }

    // ---- the lane

    public int feed(int a, int b, int c, int d, int e) {
        if (tapeLength + BYTES_A_FEED > MOST_BYTES) {
            return NONE;
        }
        write(a);
        write(b);
        write(c);
        write(d);
        write(e);
        return tapeLength;
    }

    public int lane(int n) {
        if (n < 0 || n > tapeLength) {
            return refuse(BAD_NUMBER);
        }
        Reader reader = new Reader(tape, n);
        boolean read = reader.readText();
        tapeLength = 0;
        fault = reader.fault;
        place = reader.start;
        if (!read) {
            return refuse(BAD_TEXT);
        }
        trouble = 0;
        begin(reader.told);
        return told.doors;
    }

    public int fault() {
        return fault;
    }

    public int where() {
        return trouble == BAD_TEXT ? place : NONE;
    }

    // ---- now

    public int door(int d, int what) {
        if (!passes(here.isDoor(d) && what >= 0 && what <= 5, true)) {
            return NONE;
        }
        switch (what) {
            case 0:
                return here.kindOf(d);
            case 1:
                return here.leadOf(d);
            case 2:
                return told.locked >> d & 1;
            case 3:
                return here.nailed >> d & 1;
            case 4:
                return here.peopleAt(d + 1);
            default:
                return here.lastDoor == d ? 1 : 0;
        }
    }

    public int person(int p, int what) {
        if (!passes(here.isPerson(p) && what >= 0 && what <= 4, true)) {
            return NONE;
        }
        switch (what) {
            case 0:
                return here.placeOf(p);
            case 1:
                return told.keys >> p & 1;
            case 2:
                return told.home[p];
            case 3:
                return told.wish[p];
            default:
                return told.sight[p];
        }
    }

    public int last() {
        return passes(hasLane(), true) ? here.lastDoor : NONE;
    }

    public int can(int step) {
        if (!passes(here.isStep(step), true)) {
            return NONE;
        }
        return here.may(step, here.everybody()) ? 1 : 0;
    }

    public int choices() {
        return passes(hasLane(), true) ? here.countSteps() : NONE;
    }

    public int seen() {
        return passes(hasLane(), true) ? here.roomsSeen() : NONE;
    }

    public int shutIn() {
        return passes(hasLane(), true) ? here.peopleShutIn() : NONE;
    }

    // ---- errands

    public int errand(int what) {
        if (!passes(hasLane(), isErrand(what))) {
            return NONE;
        }
        Search from = walkFromNow();
        return from.depthOf(from.firstFit(goalOf(what)));
    }

    public int errandAt(int what, int i) {
        if (!passes(hasLane(), isErrand(what))) {
            return NONE;
        }
        Search from = walkFromNow();
        int step = from.stepOnTheWay(from.firstFit(goalOf(what)), i);
        return step == NONE ? refuse(NONE_SUCH) : step;
    }

    public int shuttings(int what) {
        if (!passes(hasLane(), isErrand(what))) {
            return NONE;
        }
        spare.begin(told, here.scene());
        return spare.fewestShut(goalOf(what));
    }

    public int wayTo(int p, int place) {
        if (!passes(here.isPerson(p) && here.isPlace(place), true)) {
            return NONE;
        }
        Search from = walkFromNow();
        return from.depthOf(from.firstFit(here.placingsWith(p, place)));
    }

    public int comes(int p) {
        if (!passes(here.isPerson(p), true)) {
            return NONE;
        }
        int met = walkAll().met;
        int places = 0;
        for (int at = 0; at <= here.doors; at++) {
            if ((met & here.placingsWith(p, at)) != 0) {
                places |= 1 << at;
            }
        }
        return places;
    }

    // ---- what can be come to

    public int reach() {
        return passes(hasLane(), true) ? walkAll().tail : NONE;
    }

    public int placings() {
        return passes(hasLane(), true) ? Integer.bitCount(walkAll().met) : NONE;
    }

    public int deepest() {
        if (!passes(hasLane(), true)) {
            return NONE;
        }
        Search all = walkAll();
        return all.depthOf(all.tail - 1);
    }

    public int stuckOnes() {
        return passes(hasLane(), true) ? walkAll().deadEnds : NONE;
    }

    // ---- what was seen

    public int rows(int n) {
        if (!passes(hasLane(), isRow(n))) {
            return NONE;
        }
        return knownRows().howMany(n);
    }

    public int lastBy(int n) {
        if (!passes(hasLane(), isRow(n))) {
            return NONE;
        }
        return knownRows().lastDoors(n);
    }

    public int firstBy(int step, int n) {
        if (!passes(here.isStep(step), isRow(n) && n > 0)) {
            return NONE;
        }
        return knownRows().beginningWith(step, n);
    }

    public int fewestSeen() {
        if (!passes(hasLane(), true)) {
            return NONE;
        }
        for (int n = 0; n <= MOST_ROW; n++) {
            if (knownRows().howMany(n) > 0) {
                return n;
            }
        }
        return CANT;
    }

    // ---- nails, in and out

    public int nails(int p, int room) {
        if (!passes(here.isPerson(p) && here.isDoor(room), true)) {
            return NONE;
        }
        return fewestNails(here.placingsWith(p, room + 1));
    }

    public int gets(int p, int room, int n) {
        if (!passes(isContest(p, room), n >= 0 && n <= MOST_MOVES)) {
            return NONE;
        }
        contest.begin(told, here.scene(), p, room + 1);
        return contest.succeeds(here.arrangement(), n) ? 1 : 0;
    }

    public int opensWith(int p, int room, int n) {
        if (!passes(isContest(p, room), n >= 1 && n <= MOST_MOVES)) {
            return NONE;
        }
        contest.begin(told, here.scene(), p, room + 1);
        return contest.firstMove(here.arrangement(), n);
    }

    // ---- two who slam

    public int slams(int draught, boolean one, boolean other, boolean ofOther) {
        if (!passes(hasLane(), isDraught(draught))) {
            return -100;
        }
        return ofOther ? share(draught, other, one) : share(draught, one, other);
    }

    public int rests(int draught) {
        if (!passes(hasLane(), isDraught(draught))) {
            return NONE;
        }
        int count = 0;
        for (int pair = 0; pair < 4; pair++) {
            count += isRest(draught, pair) ? 1 : 0;
        }
        return count;
    }

    public int rest(int draught) {
        if (!passes(hasLane(), isDraught(draught))) {
            return NONE;
        }
        for (int pair = 0; pair < 4; pair++) {
            if (isRest(draught, pair)) {
                return (pair >> 1) * 10 + (pair & 1);
            }
        }
        return CANT;
    }

    // ---- drafts

    public long odds(int d, int n, boolean lower) {
        if (!passes(here.isDoor(d), isTimes(n))) {
            return NONE;
        }
        gusts.blow(here.openDoors(), here.lastDoor, told.drafts, n);
        return gusts.inLowestTerms(gusts.weightOfLast(d), lower);
    }

    public long shutOdds(int d, int n, boolean lower) {
        if (!passes(here.isDoor(d), isTimes(n))) {
            return NONE;
        }
        gusts.blow(here.openDoors(), here.lastDoor, told.drafts, n);
        return gusts.inLowestTerms(gusts.weightOfShut(d), lower);
    }

    public long mean(int n, boolean lower) {
        if (!passes(hasLane(), isTimes(n))) {
            return NONE;
        }
        gusts.blow(here.openDoors(), here.lastDoor, told.drafts, n);
        return gusts.inLowestTerms(gusts.weightOfOpen(), lower);
    }

    public int drafts(int seed, int n) {
        if (!passes(hasLane(), isDraw(seed, n))) {
            return NONE;
        }
        gusts.draw(here.openDoors(), here.lastDoor, told.drafts, seed, n);
        return gusts.drawnLast;
    }

    public int stillAt(int seed, int n) {
        if (!passes(hasLane(), isDraw(seed, n))) {
            return NONE;
        }
        gusts.draw(here.openDoors(), here.lastDoor, told.drafts, seed, n);
        return gusts.drawnStill;
    }

    // ---- acts

    public int open(int d) {
        if (!mayAct(here.isDoor(d), !here.isOpen(d), here.mayOpen(d, here.everybody()))) {
            return NONE;
        }
        keepNow();
        here.put(here.afterOpen(d));
        return here.leadOf(d);
    }

    public boolean shut(int d) {
        if (!mayAct(here.isDoor(d), here.isOpen(d), here.mayShut(d, here.everybody()))) {
            return false;
        }
        keepNow();
        here.put(here.afterShut(d));
        return true;
    }

    public int go(int p, int d) {
        if (!mayAct(here.isDoor(d) && here.isPerson(p), here.isOpen(d), here.mayGo(p, d))) {
            return NONE;
        }
        keepNow();
        here.put(here.afterGo(p, d));
        return here.placeOf(p);
    }

    public boolean nail(int d) {
        if (!mayAct(here.isDoor(d), !here.isNailed(d), !here.isOpen(d))) {
            return false;
        }
        keepNow();
        here.nailed |= 1 << d;
        return true;
    }

    public int spring(int d) {
        int kind = here.kindOf(d);
        if (!mayAct(here.isDoor(d), kind == PLAIN || kind == SPRING, true)) {
            return NONE;
        }
        keepNow();
        here.kind[d] = kind == PLAIN ? SPRING : PLAIN;
        return here.kind[d];
    }

    public boolean undo() {
        if (!mayAct(true, true, pastCount > 0 && pastCount <= MOST_KEPT)) {
            return false;
        }
        pastCount--;
        here.load(past[pastCount]);
        return true;
    }

    public int image() {
        if (!hasLane()) {
            return refuse(NONE_SUCH);
        }
        if (imageCount >= MOST_IMAGES) {
            return refuse(NO_ROOM);
        }
        trouble = 0;
        images[imageCount] = here.scene();
        imageCount++;
        return imageCount - 1;
    }

    public boolean back(int image) {
        if (!passes(image >= 0 && image < imageCount, true)) {
            return false;
        }
        here.load(images[image]);
        pastCount = 0;
        return true;
    }

    // ---- what is told

    public int led(int i) throws NoSuchElementException {
        int left = i;
        for (int step = 0; step < here.steps && left >= 0; step++) {
            if (here.may(step, here.everybody())) {
                if (left == 0) {
                    return step;
                }
                left--;
            }
        }
        throw new NoSuchElementException();
    }

    public int size(int what) {
        switch (what) {
            case 0:
                return told.drafts;
            case 1:
                return told.doors;
            case 2:
                return told.people;
            case 3:
                return Integer.bitCount(told.locked);
            case 4:
                return countOther(told.lead, 0);
            case 5:
                return countOther(told.at, 0);
            case 6:
                return Integer.bitCount(told.keys);
            case 7:
                return countOther(told.home, CANT);
            case 8:
                return countOther(told.wish, CANT);
            case 9:
                return countOther(told.sight, CANT);
            case 10:
                return pastCount;
            case 11:
                return imageCount;
            case 12:
                return tapeLength;
            default:
                return NONE;
        }
    }

    public int trouble() {
        return trouble;
    }

    // ---- refusals

    private int refuse(int why) {
        trouble = why;
        return NONE;
    }

    private boolean passes(boolean such, boolean number) {
        trouble = !such ? NONE_SUCH : !number ? BAD_NUMBER : 0;
        return trouble == 0;
    }

    private boolean mayAct(boolean such, boolean so, boolean possible) {
        trouble = !such ? NONE_SUCH : !so ? NOT_SO : !possible ? CANT_BE : 0;
        return trouble == 0;
    }

    private boolean hasLane() {
        return told.doors > 0;
    }

    private boolean isContest(int p, int room) {
        return here.isPerson(p) && here.isDoor(room) && told.people == MOST_PEOPLE;
    }

    private static boolean isErrand(int what) {
        return what >= 0 && what <= 2;
    }

    private static boolean isRow(int n) {
        return n >= 0 && n <= MOST_ROW;
    }

    private static boolean isDraught(int draught) {
        return draught >= 0 && draught <= MOST_DRAUGHT;
    }

    private static boolean isTimes(int n) {
        return n >= 0 && n <= MOST_TIMES;
    }

    private static boolean isDraw(int seed, int n) {
        return seed >= 0 && seed < SEEDS && n >= 0 && n <= MOST_DRAWS;
    }

    // ---- what the calls share

    private void write(int four) {
        for (int shift = 24; shift >= 0 && tapeLength < MOST_BYTES; shift -= 8) {
            tape[tapeLength] = (byte) (four >> shift);
            tapeLength++;
        }
    }

    private void begin(Told newTold) {
        told = newTold;
        here.fit(newTold);
        here.load(here.firstScene(newTold));
        pastCount = 0;
        imageCount = 0;
        walkScene = NONE;
        sightings.known = false;
    }

    private void keepNow() {
        if (pastCount >= MOST_KEPT) {
            for (int i = 1; i < MOST_KEPT; i++) {
                past[i - 1] = past[i];
            }
            pastCount = MOST_KEPT - 1;
        }
        past[pastCount] = here.scene();
        pastCount++;
    }

    /** The search from NOW is kept as far as it went, since most questions between two ACTS ask it again. */
    private Search walkFromNow() {
        int scene = here.scene();
        if (walkScene != scene) {
            walk.begin(told, scene);
            walkScene = scene;
        }
        return walk;
    }

    private Search walkAll() {
        Search from = walkFromNow();
        from.finish();
        return from;
    }

    private Rows knownRows() {
        if (!sightings.known) {
            spare.begin(told, here.firstScene(told));
            sightings.fill(spare, here.placingsFor(told.sight[0], told.sight[1]));
        }
        return sightings;
    }

    private int goalOf(int what) {
        if (what == 2) {
            return here.placingsFor(0, 0);
        }
        int[] wanted = what == 1 ? told.home : told.wish;
        return here.placingsFor(wanted[0], wanted[1]);
    }

    private int fewestNails(int goal) {
        int shutNow = ~here.openDoors() & (1 << here.doors) - 1;
        for (int count = 0; count <= here.doors; count++) {
            for (int doors = 0; doors < 1 << here.doors; doors++) {
                boolean fits = (doors & ~shutNow) == 0 && Integer.bitCount(doors) == count;
                if (fits && keepsFrom(goal, doors)) {
                    return doors;
                }
            }
        }
        return CANT;
    }

    private boolean keepsFrom(int goal, int doors) {
        spare.begin(told, here.scene());
        spare.hall.nailed |= doors;
        return spare.firstFit(goal) == NONE;
    }

    private static int share(int draught, boolean mine, boolean others) {
        if (mine) {
            return others ? 0 : 4;
        }
        return others ? 1 - draught : 2;
    }

    /** A pair's bits: 2 if the one slams, 1 if the other one does. */
    private static boolean isRest(int draught, int pair) {
        boolean one = (pair & 2) != 0;
        boolean other = (pair & 1) != 0;
        return share(draught, one, other) >= share(draught, !one, other)
            && share(draught, other, one) >= share(draught, !other, one);
    }

    private static int countOther(int[] values, int than) {
        int count = 0;
        for (int value : values) {
            count += value != than ? 1 : 0;
        }
        return count;
    }

    /** What a text tells; without doors there is no LANE. Places are 0 for the lane, else a door and 1. */
    private static final class Told {
        int drafts;
        int doors;
        int people;
        int locked;
        int keys;
        int lastDoor;
        final int[] kind = new int[MOST_DOORS];
        final int[] lead = new int[MOST_DOORS];
        final int[] at = new int[MOST_PEOPLE];
        final int[] home = {CANT, CANT};
        final int[] wish = {CANT, CANT};
        final int[] sight = {CANT, CANT};
    }

    /** Reads a text from the left; it stops at its first FAULT, whose place is the TOKEN it stands at. */
    private static final class Reader {
        private static final int END = 0;
        private static final int WORD = 1;
        private static final int WHOLE = 2;
        private static final int PART = 3;
        private static final int BAD = 4;

        private static final int LONGEST_WORD = 8;
        private static final int LONGEST_WHOLE = 3;

        // Eight columns for each word; its number is where it stands.
        private static final String LINE_WORDS =
            "lane    door    locked  last    ajar    person  inside  key     home    wants   seen    ";
        private static final String KIND_WORDS = "plain   spring  heavy   stuck   ";
        private static final String DRAFTS_WORD = "drafts  ";

        private static final int LANE_LINE = 0;
        private static final int DOOR_LINE = 1;
        private static final int LOCKED_LINE = 2;
        private static final int LAST_LINE = 3;
        private static final int AJAR_LINE = 4;
        private static final int PERSON_LINE = 5;
        private static final int INSIDE_LINE = 6;
        private static final int KEY_LINE = 7;
        private static final int HOME_LINE = 8;
        private static final int WANTS_LINE = 9;

        private static final int FORM = 1;
        private static final int UNKNOWN = 2;
        private static final int AGAIN = 3;
        private static final int BOUNDS = 4;
        private static final int MANY = 5;
        private static final int LACKS = 6;
        private static final int OPEN_LAST = 7;

        final Told told = new Told();
        int fault;
        int start;
        private final byte[] text;
        private final int end;
        private int length;
        private int sort;
        private int value;
        // A WORD's letters as one number, five bits each: 8 letters fit, and no two WORDS are alike.
        private long spelling;
        private boolean laneTold;
        private boolean lastTold;
        // Doors' names first, then people's; 0 is none yet.
        private final long[] names = new long[MOST_DOORS + MOST_PEOPLE];

        Reader(byte[] text, int end) {
            this.text = text;
            this.end = Math.min(end, text.length);
        }

        boolean readText() {
            advance();
            for (int line = 0; line <= end; line++) {
                if (!readLine()) {
                    return false;
                }
                if (sort == END) {
                    return told.doors > 0 || fail(LACKS);
                }
                if (sort != PART) {
                    return fail(FORM);
                }
                advance();
            }
            return fail(FORM);
        }

        private boolean readLine() {
            int line = wordNumber(LINE_WORDS);
            if (line == NONE) {
                return fail(FORM);
            }
            if (!laneTold && line != LANE_LINE) {
                return fail(LACKS);
            }
            switch (line) {
                case LANE_LINE:
                    return readLane();
                case DOOR_LINE:
                    return readDoor();
                case LOCKED_LINE:
                    return readLocked();
                case LAST_LINE:
                    return readLast();
                case AJAR_LINE:
                    return readAjar();
                case PERSON_LINE:
                    return readPerson();
                case INSIDE_LINE:
                    return readInside();
                case KEY_LINE:
                    return readKey();
                case HOME_LINE:
                    return readPlace(told.home, false);
                case WANTS_LINE:
                    return readPlace(told.wish, true);
                default:
                    return readPlace(told.sight, true);
            }
        }

        private boolean readLane() {
            if (laneTold) {
                return fail(AGAIN);
            }
            advance();
            if (wordNumber(DRAFTS_WORD) == NONE) {
                return fail(FORM);
            }
            advance();
            if (sort != WHOLE) {
                return fail(FORM);
            }
            if (value > HUNDRED) {
                return fail(BOUNDS);
            }
            told.drafts = value;
            laneTold = true;
            return advance();
        }

        private boolean readDoor() {
            if (told.doors >= MOST_DOORS) {
                return fail(MANY);
            }
            advance();
            if (!readNewName(told.doors)) {
                return false;
            }
            advance();
            int kind = wordNumber(KIND_WORDS);
            if (kind == NONE) {
                return fail(FORM);
            }
            told.kind[told.doors] = kind;
            told.doors++;
            return advance();
        }

        private boolean readPerson() {
            if (told.people >= MOST_PEOPLE) {
                return fail(MANY);
            }
            advance();
            if (!readNewName(MOST_DOORS + told.people)) {
                return false;
            }
            told.people++;
            return advance();
        }

        private boolean readLocked() {
            advance();
            int d = doorHere();
            if (d == NONE) {
                return false;
            }
            if ((told.locked >> d & 1) != 0) {
                return fail(AGAIN);
            }
            told.locked |= 1 << d;
            return advance();
        }

        private boolean readLast() {
            if (lastTold) {
                return fail(AGAIN);
            }
            advance();
            int d = doorHere();
            if (d == NONE) {
                return false;
            }
            if (told.lead[d] != 0) {
                return fail(OPEN_LAST);
            }
            told.lastDoor = d;
            lastTold = true;
            return advance();
        }

        private boolean readAjar() {
            advance();
            int d = doorHere();
            if (d == NONE) {
                return false;
            }
            if (told.lead[d] != 0) {
                return fail(AGAIN);
            }
            if (lastTold && told.lastDoor == d) {
                return fail(OPEN_LAST);
            }
            advance();
            int room = doorHere();
            if (room == NONE) {
                return false;
            }
            told.lead[d] = room + 1;
            return advance();
        }

        private boolean readInside() {
            advance();
            int p = personHere();
            if (p == NONE) {
                return false;
            }
            if (told.at[p] != 0) {
                return fail(AGAIN);
            }
            advance();
            int room = doorHere();
            if (room == NONE) {
                return false;
            }
            told.at[p] = room + 1;
            return advance();
        }

        private boolean readKey() {
            advance();
            int p = personHere();
            if (p == NONE) {
                return false;
            }
            if ((told.keys >> p & 1) != 0) {
                return fail(AGAIN);
            }
            told.keys |= 1 << p;
            return advance();
        }

        private boolean readPlace(int[] places, boolean orLane) {
            advance();
            int p = personHere();
            if (p == NONE || p >= places.length) {
                return false;
            }
            if (places[p] != CANT) {
                return fail(AGAIN);
            }
            advance();
            if (orLane && wordNumber(LINE_WORDS) == LANE_LINE) {
                places[p] = 0;
                return advance();
            }
            int room = doorHere();
            if (room == NONE) {
                return false;
            }
            places[p] = room + 1;
            return advance();
        }

        private boolean readNewName(int number) {
            if (!isName()) {
                return fail(FORM);
            }
            if (nameHere() != NONE) {
                return fail(AGAIN);
            }
            if (number < 0 || number >= names.length) {
                return fail(MANY);
            }
            names[number] = spelling;
            return true;
        }

        private int doorHere() {
            int name = isName() ? nameHere() : NONE;
            if (name >= 0 && name < MOST_DOORS) {
                return name;
            }
            fail(isName() ? UNKNOWN : FORM);
            return NONE;
        }

        private int personHere() {
            int name = isName() ? nameHere() : NONE;
            if (name >= MOST_DOORS && name < MOST_DOORS + MOST_PEOPLE) {
                return name - MOST_DOORS;
            }
            fail(isName() ? UNKNOWN : FORM);
            return NONE;
        }

        private boolean isName() {
            return sort == WORD && wordNumber(LINE_WORDS) == NONE;
        }

        private int nameHere() {
            for (int number = 0; number < names.length; number++) {
                if (names[number] == spelling) {
                    return number;
                }
            }
            return NONE;
        }

        private int wordNumber(String words) {
            if (sort != WORD) {
                return NONE;
            }
            long spelled = 0;
            for (int i = 0; i < words.length(); i++) {
                char c = words.charAt(i);
                spelled = c == ' ' ? spelled : spelled << 5 | c & 31;
                if (i % LONGEST_WORD == LONGEST_WORD - 1) {
                    if (spelled == spelling) {
                        return i / LONGEST_WORD;
                    }
                    spelled = 0;
                }
            }
            return NONE;
        }

        private int byteAt(int i) {
            return i >= 0 && i < end ? text[i] & 255 : NONE;
        }

        /** Goes to the next TOKEN; true, so that a LINE's last word can end its reading. */
        private boolean advance() {
            start += length;
            for (int i = 0; i < end && byteAt(start) == ' '; i++) {
                start++;
            }
            int first = byteAt(start);
            if (first == NONE) {
                sort = END;
                length = 0;
            } else if (isLetter(first)) {
                takeWord();
            } else if (isDigit(first)) {
                takeWhole();
            } else {
                sort = first == ';' ? PART : BAD;
                length = 1;
            }
            return true;
        }

        private void takeWord() {
            length = 0;
            spelling = 0;
            for (int i = 0; i < end && isLetter(byteAt(start + length)); i++) {
                spelling = spelling << 5 | byteAt(start + length) & 31;
                length++;
            }
            sort = length <= LONGEST_WORD ? WORD : BAD;
        }

        private void takeWhole() {
            length = 0;
            value = 0;
            for (int i = 0; i < end && isDigit(byteAt(start + length)); i++) {
                value = length < LONGEST_WHOLE ? value * 10 + byteAt(start + length) - '0' : value;
                length++;
            }
            sort = length <= LONGEST_WHOLE ? WHOLE : BAD;
        }

        private static boolean isLetter(int c) {
            return c >= 'a' && c <= 'z';
        }

        private static boolean isDigit(int c) {
            return c >= '0' && c <= '9';
        }

        private boolean fail(int number) {
            fault = number;
            return false;
        }
    }

    /**
     * An ARRANGEMENT laid out, with the doors' KINDS and nails, and what STEPS make of it.
     * An ARRANGEMENT is one number below 62,500: who is where, then which doors lead where, then which
     * was LAST, by base doors and 1. A scene has it with KINDS and nails, in 28 bits.
     */
    private static final class Hall {
        private static final int CODE_BITS = 16;
        private static final int CODE_MASK = (1 << CODE_BITS) - 1;
        private static final int NAIL_SHIFT = CODE_BITS + 2 * MOST_DOORS;

        int doors;
        int people;
        int steps;
        int base = 1;
        int placingCount = 1;
        int space;
        int nailed;
        int lastDoor;
        final int[] kind = new int[MOST_DOORS];
        private int locked;
        private int keys;
        private int lastWeight;
        private int inLane;
        private int code;
        private final int[] lead = new int[MOST_DOORS];
        private final int[] at = new int[MOST_PEOPLE];
        private final int[] leadWeight = new int[MOST_DOORS];
        private final int[] atWeight = new int[MOST_PEOPLE];

        void fit(Told told) {
            doors = Math.min(told.doors, MOST_DOORS);
            people = Math.min(told.people, MOST_PEOPLE);
            locked = told.locked;
            keys = told.keys;
            base = doors + 1;
            steps = doors * (2 + people);
            int weight = 1;
            for (int p = 0; p < people; p++) {
                atWeight[p] = weight;
                weight *= base;
            }
            placingCount = weight;
            for (int d = 0; d < doors; d++) {
                leadWeight[d] = weight;
                weight *= base;
            }
            lastWeight = weight;
            space = weight * doors;
        }

        int firstScene(Told told) {
            int first = told.lastDoor * lastWeight;
            int kinds = 0;
            for (int p = 0; p < people; p++) {
                first += told.at[p] * atWeight[p];
            }
            for (int d = 0; d < doors; d++) {
                first += told.lead[d] * leadWeight[d];
                kinds |= told.kind[d] << 2 * d;
            }
            return first | kinds << CODE_BITS;
        }

        int scene() {
            int kinds = 0;
            for (int d = 0; d < doors; d++) {
                kinds |= kind[d] << 2 * d;
            }
            return code | kinds << CODE_BITS | nailed << NAIL_SHIFT;
        }

        void load(int scene) {
            for (int d = 0; d < doors; d++) {
                kind[d] = scene >> CODE_BITS + 2 * d & 3;
            }
            nailed = scene >> NAIL_SHIFT & 15;
            put(scene & CODE_MASK);
        }

        void put(int arrangement) {
            code = arrangement;
            inLane = 0;
            if (base <= 0) {
                return;
            }
            int left = arrangement;
            for (int p = 0; p < people; p++) {
                at[p] = left % base;
                left /= base;
                inLane |= at[p] == 0 ? 1 << p : 0;
            }
            for (int d = 0; d < doors; d++) {
                lead[d] = left % base;
                left /= base;
            }
            lastDoor = left;
        }

        int arrangement() {
            return code;
        }

        int placingOf(int arrangement) {
            return placingCount > 0 ? arrangement % placingCount : 0;
        }

        boolean isDoor(int d) {
            return d >= 0 && d < doors;
        }

        boolean isPerson(int p) {
            return p >= 0 && p < people;
        }

        boolean isPlace(int place) {
            return place >= 0 && place <= doors && doors > 0;
        }

        boolean isStep(int step) {
            return step >= 0 && step < steps;
        }

        boolean isOpen(int d) {
            return isDoor(d) && lead[d] != 0;
        }

        boolean isNailed(int d) {
            return isDoor(d) && (nailed >> d & 1) != 0;
        }

        int kindOf(int d) {
            return isDoor(d) ? kind[d] : NONE;
        }

        int leadOf(int d) {
            return isDoor(d) ? lead[d] : NONE;
        }

        int placeOf(int p) {
            return isPerson(p) ? at[p] : NONE;
        }

        int everybody() {
            return (1 << people) - 1;
        }

        int peopleAt(int place) {
            int bits = 0;
            for (int p = 0; p < people; p++) {
                bits |= at[p] == place ? 1 << p : 0;
            }
            return bits;
        }

        int openDoors() {
            int bits = 0;
            for (int d = 0; d < doors; d++) {
                bits |= lead[d] != 0 ? 1 << d : 0;
            }
            return bits;
        }

        int roomsSeen() {
            int bits = 0;
            for (int d = 0; d < doors; d++) {
                bits |= lead[d] != 0 ? 1 << lead[d] - 1 : 0;
            }
            return bits;
        }

        int peopleShutIn() {
            int rooms = roomsSeen();
            int bits = 0;
            for (int p = 0; p < people; p++) {
                bits |= at[p] != 0 && (rooms >> at[p] - 1 & 1) == 0 ? 1 << p : 0;
            }
            return bits;
        }

        /** Placings, as bits, by which each of both is where he must be; CANT asks nothing of him. */
        int placingsFor(int first, int second) {
            int bits = 0;
            for (int placing = 0; placing < placingCount && base > 0; placing++) {
                boolean firstFits = people < 1 || first == CANT || placing % base == first;
                boolean secondFits = people < 2 || second == CANT || placing / base == second;
                bits |= firstFits && secondFits ? 1 << placing : 0;
            }
            return bits;
        }

        int placingsWith(int p, int place) {
            return placingsFor(p == 0 ? place : CANT, p == 1 ? place : CANT);
        }

        int countSteps() {
            int count = 0;
            for (int step = 0; step < steps; step++) {
                count += may(step, everybody()) ? 1 : 0;
            }
            return count;
        }

        /** Whether a STEP can be done as if only these people were there. */
        boolean may(int step, int these) {
            if (!isStep(step) || doors <= 0) {
                return false;
            }
            int row = step / doors;
            int d = step % doors;
            if (row == 0) {
                return mayOpen(d, these);
            }
            if (row == 1) {
                return mayShut(d, these);
            }
            int p = row - 2;
            return (these >> p & 1) != 0 && mayGo(p, d);
        }

        boolean mayOpen(int d, int these) {
            int hands = inLane & these;
            if (d < 0 || d >= doors || lead[d] != 0 || hands == 0 || (nailed >> d & 1) != 0) {
                return false;
            }
            boolean strong = kind[d] != HEAVY || Integer.bitCount(hands) >= 2;
            return strong && ((locked >> d & 1) == 0 || (hands & keys) != 0);
        }

        boolean mayShut(int d, int these) {
            if (d < 0 || d >= doors || lead[d] == 0 || kind[d] == STUCK) {
                return false;
            }
            return ((inLane | peopleAt(lead[d])) & these) != 0;
        }

        boolean mayGo(int p, int d) {
            if (p < 0 || p >= people || d < 0 || d >= doors || lead[d] == 0) {
                return false;
            }
            return at[p] == 0 || at[p] == lead[d];
        }

        int after(int step) {
            if (!isStep(step) || doors <= 0) {
                return code;
            }
            int row = step / doors;
            int d = step % doors;
            if (row == 0) {
                return afterOpen(d);
            }
            return row == 1 ? afterShut(d) : afterGo(row - 2, d);
        }

        int afterOpen(int d) {
            return isDoor(d) ? code + (lastDoor + 1) * leadWeight[d] : code;
        }

        int afterShut(int d) {
            return isDoor(d) ? code + shutting(d) : code;
        }

        int afterGo(int p, int d) {
            if (!isPerson(p) || !isDoor(d)) {
                return code;
            }
            int moved = (at[p] == 0 ? lead[d] : -at[p]) * atWeight[p];
            return code + moved + (kind[d] == SPRING ? shutting(d) : 0);
        }

        /** By how much the ARRANGEMENT's number changes when an open door is shut. */
        private int shutting(int d) {
            return (d - lastDoor) * lastWeight - lead[d] * leadWeight[d];
        }
    }

    /**
     * Goes through the ARRANGEMENTS, nearest first and by numbers of STEPS, as far as it is asked.
     * An entry of the queue has its ARRANGEMENT in the lower half, where it was come from in the upper.
     */
    private static final class Search {
        private static final int ALL = 0;
        private static final int FREE = 1;
        private static final int SHUTTING = 2;

        final Hall hall = new Hall();
        int tail;
        int met;
        int deadEnds;
        private int head;
        private int[] queue = new int[0];
        private long[] marks = new long[0];

        void begin(Told told, int scene) {
            hall.fit(told);
            hall.load(scene);
            makeRoom(hall.space);
            head = 0;
            tail = 0;
            met = 0;
            deadEnds = 0;
            add(hall.arrangement(), 0);
        }

        private void makeRoom(int space) {
            if (queue.length < space) {
                queue = new int[space];
                marks = new long[space / 64 + 1];
            } else {
                Arrays.fill(marks, 0L);
            }
        }

        private void add(int arrangement, int from) {
            int word = arrangement >> 6;
            if (word < 0 || word >= marks.length || tail >= queue.length) {
                return;
            }
            long bit = 1L << (arrangement & 63);
            if ((marks[word] & bit) != 0) {
                return;
            }
            marks[word] |= bit;
            queue[tail] = from << Hall.CODE_BITS | arrangement;
            tail++;
            met |= 1 << hall.placingOf(arrangement);
        }

        int arrangementAt(int i) {
            return i >= 0 && i < tail ? queue[i] & Hall.CODE_MASK : 0;
        }

        private int cameFrom(int i) {
            return i >= 0 && i < tail ? queue[i] >>> Hall.CODE_BITS : 0;
        }

        /** The first one whose placing is among these, else NONE. */
        int firstFit(int placings) {
            for (int i = 0; i < queue.length && head < tail && (met & placings) == 0; i++) {
                expand(head, ALL);
                head++;
            }
            if ((met & placings) == 0) {
                return NONE;
            }
            for (int i = 0; i < tail; i++) {
                if ((placings >> hall.placingOf(arrangementAt(i)) & 1) != 0) {
                    return i;
                }
            }
            return NONE;
        }

        void finish() {
            for (int i = 0; i < queue.length && head < tail; i++) {
                expand(head, ALL);
                head++;
            }
        }

        /** Goes on by as many STEPS as there are ends to tell: how many it has met by then. */
        void spread(int[] ends) {
            for (int n = 0; n < ends.length; n++) {
                int end = tail;
                for (int i = head; i < end && n > 0; i++) {
                    expand(i, ALL);
                    head++;
                }
                ends[n] = tail;
            }
        }

        private void expand(int i, int which) {
            hall.put(arrangementAt(i));
            int stepsDone = 0;
            int all = hall.everybody();
            for (int d = 0; d < hall.doors && which != SHUTTING; d++) {
                if (hall.mayOpen(d, all)) {
                    add(hall.afterOpen(d), i);
                    stepsDone++;
                }
            }
            for (int d = 0; d < hall.doors && which != FREE; d++) {
                if (hall.mayShut(d, all)) {
                    add(hall.afterShut(d), i);
                    stepsDone++;
                }
            }
            for (int p = 0; p < hall.people; p++) {
                stepsDone += expandGoing(p, i, which);
            }
            deadEnds += stepsDone == 0 ? 1 : 0;
        }

        private int expandGoing(int p, int i, int which) {
            int count = 0;
            for (int d = 0; d < hall.doors; d++) {
                int sort = hall.kind[d] == SPRING ? SHUTTING : FREE;
                if ((which == ALL || which == sort) && hall.mayGo(p, d)) {
                    add(hall.afterGo(p, d), i);
                    count++;
                }
            }
            return count;
        }

        /** How many STEPS lead to an entry; CANT for none such. */
        int depthOf(int i) {
            if (i < 0 || i >= tail) {
                return CANT;
            }
            int depth = 0;
            int at = i;
            for (int turn = 0; turn < tail && at > 0; turn++) {
                at = cameFrom(at);
                depth++;
            }
            return depth;
        }

        /** The STEP of this number on the way to an entry, else NONE. */
        int stepOnTheWay(int i, int number) {
            int depth = depthOf(i);
            if (number < 0 || number >= depth) {
                return NONE;
            }
            int at = i;
            for (int turn = depth - 1; turn > number; turn--) {
                at = cameFrom(at);
            }
            hall.put(arrangementAt(cameFrom(at)));
            for (int step = 0; step < hall.steps; step++) {
                if (hall.may(step, hall.everybody()) && hall.after(step) == arrangementAt(at)) {
                    return step;
                }
            }
            return NONE;
        }

        /** All that can be come to without a shutting, then with one more each time, until one fits. */
        int fewestShut(int placings) {
            int from = 0;
            for (int count = 0; count <= queue.length; count++) {
                for (int i = from; i < tail && i < queue.length; i++) {
                    expand(i, FREE);
                }
                if ((met & placings) != 0) {
                    return count;
                }
                int end = tail;
                for (int i = from; i < end; i++) {
                    expand(i, SHUTTING);
                }
                if (tail == end) {
                    return CANT;
                }
                from = end;
            }
            return CANT;
        }

        /** How many ARRANGEMENTS marked have a lower number than each word's first. */
        void rank(int[] ranks) {
            int before = 0;
            for (int word = 0; word < ranks.length && word < marks.length; word++) {
                ranks[word] = before;
                before += Long.bitCount(marks[word]);
            }
        }

        int markWords() {
            return marks.length;
        }

        int rankOf(int arrangement, int[] ranks) {
            int word = arrangement >> 6;
            if (word < 0 || word >= ranks.length || word >= marks.length) {
                return 0;
            }
            long lower = (1L << (arrangement & 63)) - 1;
            return ranks[word] + Long.bitCount(marks[word] & lower);
        }
    }

    /**
     * Counts ROWS from their end: by how many rows of so many STEPS an ARRANGEMENT comes to one that fits.
     * A value has that count, and in its four lowest bits the doors that are LAST behind such a row.
     */
    private static final class Rows {
        private static final int MOST_STEPS = MOST_DOORS * (2 + MOST_PEOPLE);
        private static final int LENGTHS = MOST_ROW + 1;

        boolean known;
        private final int[] byLength = new int[LENGTHS];
        private final int[] byFirst = new int[MOST_STEPS * LENGTHS];
        private final int[] ends = new int[LENGTHS];
        private int[] ranks = new int[0];
        private int[] values = new int[0];
        private int[] longer = new int[0];

        int howMany(int n) {
            return n >= 0 && n < LENGTHS ? byLength[n] >> MOST_DOORS : 0;
        }

        int lastDoors(int n) {
            return n >= 0 && n < LENGTHS ? byLength[n] & (1 << MOST_DOORS) - 1 : 0;
        }

        int beginningWith(int step, int n) {
            int i = step * LENGTHS + n;
            return i >= 0 && i < byFirst.length ? byFirst[i] >> MOST_DOORS : 0;
        }

        /** The search must have begun where the rows do. */
        void fill(Search search, int placings) {
            Arrays.fill(byFirst, 0);
            search.spread(ends);
            makeRoom(search);
            search.rank(ranks);
            for (int i = 0; i < search.tail; i++) {
                setValue(values, rankAt(search, i), valueOfFit(search, i, placings));
            }
            byLength[0] = valueOf(search.arrangementAt(0), search);
            for (int n = 1; n <= MOST_ROW; n++) {
                noteFirsts(search, n);
                for (int i = 0; i < ends[MOST_ROW - n]; i++) {
                    setValue(longer, rankAt(search, i), valueByOneMore(search, i));
                }
                int[] used = values;
                values = longer;
                longer = used;
                byLength[n] = valueOf(search.arrangementAt(0), search);
            }
            known = true;
        }

        private void makeRoom(Search search) {
            if (ranks.length < search.markWords()) {
                ranks = new int[search.markWords()];
            }
            if (values.length < search.tail || longer.length < search.tail) {
                values = new int[search.tail];
                longer = new int[search.tail];
            }
        }

        private int rankAt(Search search, int i) {
            return search.rankOf(search.arrangementAt(i), ranks);
        }

        private static void setValue(int[] row, int i, int value) {
            if (i >= 0 && i < row.length) {
                row[i] = value;
            }
        }

        private int valueOf(int arrangement, Search search) {
            int i = search.rankOf(arrangement, ranks);
            return i >= 0 && i < values.length ? values[i] : 0;
        }

        private static int valueOfFit(Search search, int i, int placings) {
            Hall hall = search.hall;
            hall.put(search.arrangementAt(i));
            boolean fits = (placings >> hall.placingOf(hall.arrangement()) & 1) != 0;
            return fits ? 1 << MOST_DOORS | 1 << hall.lastDoor : 0;
        }

        private int valueByOneMore(Search search, int i) {
            Hall hall = search.hall;
            hall.put(search.arrangementAt(i));
            int count = 0;
            int lasts = 0;
            for (int step = 0; step < hall.steps; step++) {
                if (hall.may(step, hall.everybody())) {
                    int value = valueOf(hall.after(step), search);
                    count += value >> MOST_DOORS;
                    lasts |= value & (1 << MOST_DOORS) - 1;
                }
            }
            return count << MOST_DOORS | lasts;
        }

        private void noteFirsts(Search search, int n) {
            Hall hall = search.hall;
            hall.put(search.arrangementAt(0));
            for (int step = 0; step < hall.steps; step++) {
                int i = step * LENGTHS + n;
                if (hall.may(step, hall.everybody()) && i < byFirst.length) {
                    byFirst[i] = valueOf(hall.after(step), search);
                }
            }
        }
    }

    /** IN and OUT: the seeker wants to be at the goal behind the last move, the other one that he isn't. */
    private static final class Contest {
        private final Hall hall = new Hall();
        private int seeker;
        private int goal;

        void begin(Told told, int scene, int person, int place) {
            hall.fit(told);
            hall.load(scene);
            seeker = person;
            goal = place;
        }

        /** Whether the seeker, who moves first, is at the goal behind so many moves. */
        boolean succeeds(int arrangement, int moves) {
            return getsIn(arrangement, moves, true);
        }

        private boolean getsIn(int arrangement, int left, boolean seekerMoves) {
            if (left <= 0) {
                hall.put(arrangement);
                return hall.placeOf(seeker) == goal;
            }
            // Who moves tries for what he wants; nothing is one of his moves.
            if (getsIn(arrangement, left - 1, !seekerMoves) == seekerMoves) {
                return seekerMoves;
            }
            return findMove(arrangement, left, seekerMoves) != NONE ? seekerMoves : !seekerMoves;
        }

        /** The first STEP by which who moves has what he wants, else NONE. */
        private int findMove(int arrangement, int left, boolean seekerMoves) {
            int alone = 1 << (seekerMoves ? seeker : 1 - seeker);
            for (int step = 0; step < hall.steps; step++) {
                hall.put(arrangement);
                if (hall.may(step, alone)
                        && getsIn(hall.after(step), left - 1, !seekerMoves) == seekerMoves) {
                    return step;
                }
            }
            return NONE;
        }

        int firstMove(int arrangement, int left) {
            if (left <= 0 || getsIn(arrangement, left - 1, false)) {
                return CANT;
            }
            int step = findMove(arrangement, left, true);
            return step == NONE ? CANT : step;
        }
    }

    /** DRAFTS: by chance as exact weights of open doors and LAST, and by draws. */
    private static final class Gusts {
        // A whole that each number of open doors, 1 to 4, divides.
        private static final int PARTS = 12;

        int drawnLast;
        int drawnStill;
        private long whole;
        private long[] weights = new long[MOST_DOORS << MOST_DOORS];
        private long[] next = new long[MOST_DOORS << MOST_DOORS];

        void blow(int openDoors, int lastDoor, int drafts, int n) {
            Arrays.fill(weights, 0L);
            int first = openDoors * MOST_DOORS + lastDoor;
            if (first >= 0 && first < weights.length) {
                weights[first] = 1;
            }
            whole = 1;
            for (int time = 0; time < n; time++) {
                blowOnce(drafts);
                whole *= HUNDRED * PARTS;
            }
        }

        private void blowOnce(int drafts) {
            Arrays.fill(next, 0L);
            for (int i = 0; i < weights.length && i < next.length; i++) {
                int open = i / MOST_DOORS;
                int count = Integer.bitCount(open);
                if (count == 0) {
                    next[i] += weights[i] * HUNDRED * PARTS;
                } else {
                    next[i] += weights[i] * (HUNDRED - drafts) * PARTS;
                    shutEach(open, weights[i] * drafts * (PARTS / count));
                }
            }
            long[] used = weights;
            weights = next;
            next = used;
        }

        private void shutEach(int open, long weight) {
            for (int d = 0; d < MOST_DOORS; d++) {
                int i = (open & ~(1 << d)) * MOST_DOORS + d;
                if ((open >> d & 1) != 0 && i >= 0 && i < next.length) {
                    next[i] += weight;
                }
            }
        }

        long weightOfLast(int d) {
            long sum = 0;
            for (int i = 0; i < weights.length; i++) {
                sum += i % MOST_DOORS == d ? weights[i] : 0;
            }
            return sum;
        }

        long weightOfShut(int d) {
            long sum = 0;
            for (int i = 0; i < weights.length; i++) {
                sum += (i / MOST_DOORS >> d & 1) == 0 ? weights[i] : 0;
            }
            return sum;
        }

        long weightOfOpen() {
            long sum = 0;
            for (int i = 0; i < weights.length; i++) {
                sum += weights[i] * Integer.bitCount(i / MOST_DOORS);
            }
            return sum;
        }

        long inLowestTerms(long upper, boolean lower) {
            long common = commonDivisor(upper, whole);
            if (common == 0) {
                return 0;
            }
            return (lower ? whole : upper) / common;
        }

        private static long commonDivisor(long one, long other) {
            long a = one;
            long b = other;
            for (int turn = 0; turn < 200 && b != 0; turn++) {
                long left = a % b;
                a = b;
                b = left;
            }
            return a;
        }

        void draw(int openDoors, int lastDoor, int drafts, int seed, int n) {
            int open = openDoors;
            int drawn = seed;
            drawnLast = lastDoor;
            drawnStill = open == 0 ? 0 : CANT;
            for (int time = 1; time <= n; time++) {
                drawn = nextSeed(drawn);
                int count = Integer.bitCount(open);
                if (drawn % HUNDRED < drafts && count > 0) {
                    drawn = nextSeed(drawn);
                    drawnLast = openDoor(open, drawn % count);
                    open &= ~(1 << drawnLast);
                    drawnStill = open == 0 ? time : CANT;
                }
            }
        }

        private static int nextSeed(int seed) {
            return (75 * seed + 74) % SEEDS;
        }

        private static int openDoor(int open, int number) {
            int left = number;
            for (int d = 0; d < MOST_DOORS; d++) {
                if ((open >> d & 1) != 0) {
                    if (left == 0) {
                        return d;
                    }
                    left--;
                }
            }
            return 0;
        }
    }
}
