/**
 * A chest of nine drawers in which things are found some days before or after they are put in.
 * The words in capitals are those of the document, DOC.md.
 */
public final class NineDrawers {
    public static final int NONE = -1, UNKNOWN = -101, OUTSIDE = -102, STATE = -103, FULL = -104;

    private static final int DRAWERS = 9;
    private static final int DAYS = 7;
    private static final int ALL_DAYS = 127;
    private static final int FACINGS = 4;
    private static final int CHEST_LETTERS = DRAWERS + 1;

    private static final int LEAST_CODE = 32;
    private static final int MOST_CODE = 126;
    private static final int MOST_LETTERS = 12;
    private static final int MOST_PEOPLE = 6;
    private static final int MOST_FOUND = 8;
    private static final int MOST_FEW = 40;
    private static final int MOST_TIMES = 12;

    private static final int LEAST_AHEAD = -3;
    private static final int MOST_AHEAD = 4;

    private static final int LEAVER = 0;
    private static final int RETURNER = 1;
    private static final int SENDER = 2;
    private static final int WEEKLY = 3;
    private static final int DENIER = 4;
    private static final int KINDS = 5;

    private static final int NOBODY = -1;

    private final int[] page = new int[MOST_LETTERS];
    private int pageLength;

    private boolean hasChest;
    private final int[] delayOf = new int[DRAWERS];
    private final Hall hall = new Hall();

    private boolean hasImage;
    private final Hall kept = new Hall();

    private int chestsRead;
    private int fewDone;

    // Made once: every question about WEEKS is asked of this one, filled anew.
    private final Course course = new Course();

    public NineDrawers() {
    }

    // ---- the chest

    public int letter(int code) {
        if (code < LEAST_CODE || code > MOST_CODE) {
            return OUTSIDE;
        }
        if (pageLength >= page.length) {
            return FULL;
        }
        page[pageLength] = code;
        pageLength++;
        return pageLength;
    }

    public int blank() {
        int had = pageLength;
        pageLength = 0;
        return had;
    }

    public int fault() {
        return fittingLetters();
    }

    public int chest() {
        if (pageLength != CHEST_LETTERS || fittingLetters() != CHEST_LETTERS) {
            return STATE;
        }
        int delayed = 0;
        for (int i = 0; i < DRAWERS; i++) {
            delayOf[i] = delayByLetter(page[i]);
            if (delayOf[i] != 0) {
                delayed++;
            }
        }
        hall.clear(page[DRAWERS] - '0');
        hasChest = true;
        hasImage = false;
        chestsRead++;
        pageLength = 0;
        return delayed;
    }

    public int face(int f) {
        if (f < 0 || f >= FACINGS) {
            return OUTSIDE;
        }
        if (!hasChest) {
            return STATE;
        }
        int was = hall.facing;
        hall.facing = f;
        return was;
    }

    public int drawer(int drawer, int what) {
        if (!isDrawer(drawer)) {
            return UNKNOWN;
        }
        switch (what) {
            case 0:
                return delayOf[drawer] + 10;
            case 1:
                return aheadOf(drawer) + 10;
            case 2:
                return hall.peopleOf(drawer);
            case 3:
                return hall.laidIn[drawer];
            case 4:
                return courseOf(drawer).agreeing();
            case 5:
                return courseOf(drawer).firstStuckDay();
            case 6:
                return courseOf(drawer).leastWeek();
            default:
                return OUTSIDE;
        }
    }

    // ---- people, things

    public int person(int kind, int drawer, int day) {
        if (!isKind(kind)) {
            return OUTSIDE;
        }
        if (!isDrawer(drawer) || !isDay(day)) {
            return UNKNOWN;
        }
        if (hall.people >= MOST_PEOPLE) {
            return FULL;
        }
        int number = hall.people;
        hall.kindOf[number] = kind;
        hall.drawerOf[number] = drawer;
        hall.ownDayOf[number] = day;
        hall.people++;
        return number;
    }

    public int about(int person, int what) {
        if (!isPerson(person)) {
            return UNKNOWN;
        }
        int kind = hall.kindOf[person];
        int ownDay = hall.ownDayOf[person];
        if (what == 0) {
            return kind;
        }
        if (what == 1) {
            return hall.drawerOf[person];
        }
        if (what == 2) {
            return ownDay;
        }
        if (what >= 10 && what < 10 + DAYS) {
            return bitOf(putsIfEmpty(kind, ownDay), what - 10);
        }
        if (what >= 20 && what < 20 + DAYS) {
            return bitOf(putsIfThere(kind, ownDay), what - 20);
        }
        return OUTSIDE;
    }

    public int as(int person, int kind) {
        if (!isPerson(person)) {
            return UNKNOWN;
        }
        if (!isKind(kind)) {
            return OUTSIDE;
        }
        return isOfKind(hall.kindOf[person], kind) ? person : NONE;
    }

    public int move(int person, int drawer) {
        if (!isPerson(person) || !isDrawer(drawer)) {
            return UNKNOWN;
        }
        int was = hall.drawerOf[person];
        hall.drawerOf[person] = drawer;
        return was;
    }

    public int lay(int drawer, int day, boolean is) {
        if (!isDrawer(drawer) || !isDay(day)) {
            return UNKNOWN;
        }
        int was = bitOf(hall.laidIn[drawer], day);
        if (is) {
            hall.laidIn[drawer] |= 1 << day;
        } else {
            hall.laidIn[drawer] &= ~(1 << day);
        }
        return was;
    }

    // ---- weeks

    public int agrees(int drawer, int week) {
        if (!isDrawer(drawer)) {
            return UNKNOWN;
        }
        if (week < 0 || week > ALL_DAYS) {
            return OUTSIDE;
        }
        return courseWithout(NOBODY, drawer).mustBe(week) == week ? 1 : 0;
    }

    public int sure(int drawer, int day) {
        if (!isDrawer(drawer) || !isDay(day)) {
            return UNKNOWN;
        }
        return courseOf(drawer).sureOn(day);
    }

    public int few(int drawer, int days, int what) {
        if (!isDrawer(drawer)) {
            return UNKNOWN;
        }
        if (days < 0 || days > ALL_DAYS || what < 0 || what > 1) {
            return OUTSIDE;
        }
        if (fewDone >= MOST_FEW) {
            return STATE;
        }
        fewDone++;
        int fewest = fewestLaid(courseWithout(NOBODY, drawer), days);
        if (fewest == NONE || what == 1) {
            return fewest;
        }
        return Integer.bitCount(fewest);
    }

    // ---- what was found

    public int found(int drawer, int day, boolean is) {
        if (!isDrawer(drawer) || !isDay(day)) {
            return UNKNOWN;
        }
        if (hall.timesFound >= MOST_FOUND) {
            return FULL;
        }
        if (is) {
            hall.foundThere[drawer] |= 1 << day;
        } else {
            hall.foundEmpty[drawer] |= 1 << day;
        }
        hall.timesFound++;
        return hall.timesFound;
    }

    public int forget() {
        int was = hall.timesFound;
        hall.clearFound();
        return was;
    }

    public int delays(int drawer) {
        if (!isDrawer(drawer)) {
            return UNKNOWN;
        }
        Course tried = courseWithout(NOBODY, drawer);
        int can = 0;
        for (int ahead = LEAST_AHEAD; ahead <= MOST_AHEAD; ahead++) {
            tried.ahead = ahead;
            tried.settle();
            if (isAsFound(tried, drawer)) {
                can |= 1 << (ahead - LEAST_AHEAD);
            }
        }
        return can;
    }

    public int who(int person, int what) {
        if (!isPerson(person)) {
            return UNKNOWN;
        }
        if (what < 0 || what > 1) {
            return OUTSIDE;
        }
        int many = 0;
        int least = NONE;
        for (int kind = 0; kind < KINDS; kind++) {
            for (int ownDay = 0; ownDay < DAYS; ownDay++) {
                if (canBe(person, kind, ownDay)) {
                    many++;
                    if (least == NONE) {
                        least = DAYS * kind + ownDay;
                    }
                }
            }
        }
        return what == 0 ? many : least;
    }

    public int weeks(int times, int seed, int what) {
        if (times < 1 || times > MOST_TIMES || seed < 0 || what < 0 || what > 1) {
            return OUTSIDE;
        }
        if (!hasChest) {
            return STATE;
        }
        int drawn = seed;
        int stuck = 0;
        for (int time = 0; time < times; time++) {
            for (int i = 0; i < DRAWERS; i++) {
                Course tried = courseWithout(NOBODY, i);
                tried.laid = 0;
                for (int day = 0; day < DAYS; day++) {
                    drawn = nextSeed(drawn);
                    if (drawOf(drawn, 4) == 0) {
                        tried.laid |= 1 << day;
                    }
                }
                tried.settle();
                if (tried.stuck != 0) {
                    stuck++;
                }
            }
        }
        return what == 0 ? stuck : drawn;
    }

    // ---- what is told of all

    public int image() {
        if (!hasChest) {
            return STATE;
        }
        kept.takeFrom(hall);
        hasImage = true;
        return kept.people;
    }

    public int restore() {
        if (!hasImage) {
            return STATE;
        }
        hall.takeFrom(kept);
        return hall.people;
    }

    public int count(int what) {
        switch (what) {
            case 0:
                return drawersThatAgree();
            case 1:
                return hall.facing;
            case 2:
                return hall.people;
            case 3:
                return hall.thingsLaid();
            case 4:
                return hall.timesFound;
            case 5:
                return pageLength;
            case 6:
                return chestsRead;
            case 7:
                return fewDone;
            default:
                return OUTSIDE;
        }
    }

    public long digest() {
        long h = 853;
        if (hasChest) {
            for (int i = 0; i < DRAWERS; i++) {
                h = digestOfDrawer(h, i);
            }
        }
        for (int p = 0; p < hall.people; p++) {
            h = digestOfPerson(h, p);
        }
        for (int i = 0; i < pageLength && i < page.length; i++) {
            h = 31 * h + page[i];
        }
        for (int what = 0; what <= 7; what++) {
            h = 31 * h + count(what);
        }
        return h;
    }

    private long digestOfDrawer(long before, int drawer) {
        long h = before;
        for (int what = 0; what <= 6; what++) {
            h = 31 * h + drawer(drawer, what);
        }
        for (int day = 0; day < DAYS; day++) {
            h = 31 * h + sure(drawer, day);
        }
        return 31 * h + delays(drawer);
    }

    private long digestOfPerson(long before, int person) {
        long h = before;
        for (int what = 0; what <= 2; what++) {
            h = 31 * h + about(person, what);
        }
        for (int what = 0; what <= 1; what++) {
            h = 31 * h + who(person, what);
        }
        return h;
    }

    // ---- what names something

    // Without a CHEST no number names a DRAWER.
    private boolean isDrawer(int number) {
        return hasChest && number >= 0 && number < DRAWERS;
    }

    private boolean isPerson(int number) {
        return number >= 0 && number < hall.people;
    }

    private static boolean isDay(int number) {
        return number >= 0 && number < DAYS;
    }

    private static boolean isKind(int number) {
        return number >= 0 && number < KINDS;
    }

    private static int bitOf(int bits, int day) {
        return (bits >> day) & 1;
    }

    // ---- the page

    private int fittingLetters() {
        for (int i = 0; i < pageLength && i < page.length; i++) {
            if (!fits(i, page[i])) {
                return i;
            }
        }
        return pageLength;
    }

    private static boolean fits(int place, int code) {
        if (place < DRAWERS) {
            return code == 'y' || code == 'z' || (code >= 'a' && code <= 'd');
        }
        return place == DRAWERS && code >= '0' && code < '0' + FACINGS;
    }

    // "z" stands right before "a", "y" before that: the letters go round.
    private static int delayByLetter(int code) {
        return code >= 'y' ? code - 'z' - 1 : code - 'a';
    }

    // ---- kinds of people

    private static boolean isOfKind(int kind, int taken) {
        return taken == LEAVER || taken == kind || (taken == SENDER && kind == DENIER);
    }

    private static int putsIfEmpty(int kind, int ownDay) {
        switch (kind) {
            case SENDER:
                return ALL_DAYS;
            case WEEKLY:
                return 1 << ownDay;
            case DENIER:
                return ALL_DAYS & ~(1 << ownDay);
            default:
                return 0;
        }
    }

    private static int putsIfThere(int kind, int ownDay) {
        switch (kind) {
            case RETURNER:
                return ALL_DAYS;
            case WEEKLY:
                return 1 << ownDay;
            default:
                return 0;
        }
    }

    // ---- drawers as they are or would be

    private int aheadOf(int drawer) {
        switch (hall.facing) {
            case 0:
                return delayOf[drawer];
            case 1:
                return delayOf[drawer] + 1;
            case 2:
                return -delayOf[drawer];
            default:
                return 0;
        }
    }

    private Course courseOf(int drawer) {
        Course asItIs = courseWithout(NOBODY, drawer);
        asItIs.settle();
        return asItIs;
    }

    private Course courseWithout(int person, int drawer) {
        course.start(aheadOf(drawer), hall.laidIn[drawer]);
        for (int p = 0; p < hall.people; p++) {
            if (p != person && hall.drawerOf[p] == drawer) {
                course.join(hall.kindOf[p], hall.ownDayOf[p]);
            }
        }
        return course;
    }

    private boolean canBe(int person, int kind, int ownDay) {
        int opened = hall.drawerOf[person];
        Course tried = courseWithout(person, opened);
        tried.join(kind, ownDay);
        tried.settle();
        return isAsFound(tried, opened);
    }

    private boolean isAsFound(Course tried, int drawer) {
        return tried.allows(hall.foundThere[drawer], hall.foundEmpty[drawer]);
    }

    private int drawersThatAgree() {
        if (!hasChest) {
            return 0;
        }
        int many = 0;
        for (int i = 0; i < DRAWERS; i++) {
            if (courseOf(i).stuck == 0) {
                many++;
            }
        }
        return many;
    }

    // Tried upwards, so that of as few the least stays.
    private static int fewestLaid(Course tried, int days) {
        int fewest = NONE;
        for (int laid = 0; laid <= ALL_DAYS; laid++) {
            if (fewest == NONE || Integer.bitCount(laid) < Integer.bitCount(fewest)) {
                tried.laid = laid;
                tried.settle();
                if (tried.isSureOfAll(days)) {
                    fewest = laid;
                }
            }
        }
        return fewest;
    }

    // ---- draws

    private static int nextSeed(int seed) {
        return (1103515245 * seed + 12345) & Integer.MAX_VALUE;
    }

    private static int drawOf(int seed, int sides) {
        return sides > 0 ? seed / 65536 % sides : 0;
    }

    /** What an IMAGE keeps: all that changes while THE CHEST stays. */
    private static final class Hall {
        int facing;
        int people;
        int timesFound;
        final int[] kindOf = new int[MOST_PEOPLE];
        final int[] drawerOf = new int[MOST_PEOPLE];
        final int[] ownDayOf = new int[MOST_PEOPLE];
        final int[] laidIn = new int[DRAWERS];
        // Only whether a WEEK is as FOUND is ever asked, so bits of DAYS are enough.
        final int[] foundThere = new int[DRAWERS];
        final int[] foundEmpty = new int[DRAWERS];

        void clear(int newFacing) {
            facing = newFacing;
            people = 0;
            for (int i = 0; i < DRAWERS; i++) {
                laidIn[i] = 0;
            }
            clearFound();
        }

        void clearFound() {
            timesFound = 0;
            for (int i = 0; i < DRAWERS; i++) {
                foundThere[i] = 0;
                foundEmpty[i] = 0;
            }
        }

        void takeFrom(Hall other) {
            facing = other.facing;
            people = other.people;
            timesFound = other.timesFound;
            for (int p = 0; p < MOST_PEOPLE; p++) {
                kindOf[p] = other.kindOf[p];
                drawerOf[p] = other.drawerOf[p];
                ownDayOf[p] = other.ownDayOf[p];
            }
            for (int i = 0; i < DRAWERS; i++) {
                laidIn[i] = other.laidIn[i];
                foundThere[i] = other.foundThere[i];
                foundEmpty[i] = other.foundEmpty[i];
            }
        }

        int peopleOf(int drawer) {
            int bits = 0;
            for (int p = 0; p < people; p++) {
                if (drawerOf[p] == drawer) {
                    bits |= 1 << p;
                }
            }
            return bits;
        }

        int thingsLaid() {
            int many = 0;
            for (int i = 0; i < DRAWERS; i++) {
                many += Integer.bitCount(laidIn[i]);
            }
            return many;
        }
    }

    /**
     * One DRAWER as it is or would be, with all that tells which of its WEEKS AGREE.
     *
     * A DAY hangs on the one that is so many DAYS off as the DRAWER is AHEAD, and on no other. So
     * the WEEKS that AGREE are told by which DAYS can hold something and which can lack it, each
     * DAY free of the others; a DAY that can do neither is stuck, and then no WEEK AGREES.
     */
    private static final class Course {
        int ahead;
        int laid;
        int putIfEmpty;
        int putIfThere;

        // These stand as of the last settle().
        int canHold;
        int canLack;
        int stuck;

        void start(int daysAhead, int laidOn) {
            ahead = daysAhead;
            laid = laidOn;
            putIfEmpty = 0;
            putIfThere = 0;
        }

        void join(int kind, int ownDay) {
            putIfEmpty |= putsIfEmpty(kind, ownDay);
            putIfThere |= putsIfThere(kind, ownDay);
        }

        int mustBe(int week) {
            int put = (putIfEmpty & ~week) | (putIfThere & week) | laid;
            return ALL_DAYS & (ahead >= 0 ? put << ahead : put >> -ahead);
        }

        void settle() {
            if (ahead == 0) {
                canHold = mustBe(ALL_DAYS);
                canLack = ALL_DAYS & ~mustBe(0);
            } else {
                canHold = onlyWeek();
                canLack = ALL_DAYS & ~canHold;
            }
            stuck = ALL_DAYS & ~(canHold | canLack);
        }

        // Where no DAY hangs on itself, each step makes one more DAY at least as it must be, from
        // that end of the week on which nothing from inside it can come.
        private int onlyWeek() {
            int week = 0;
            for (int step = 0; step < DAYS; step++) {
                week = mustBe(week);
            }
            return week;
        }

        int agreeing() {
            return stuck == 0 ? 1 << Integer.bitCount(canHold & canLack) : 0;
        }

        int firstStuckDay() {
            for (int day = 0; day < DAYS; day++) {
                if (bitOf(stuck, day) == 1) {
                    return day;
                }
            }
            return NONE;
        }

        int leastWeek() {
            return stuck == 0 ? ALL_DAYS & ~canLack : NONE;
        }

        int sureOn(int day) {
            if (stuck != 0 || bitOf(canHold & canLack, day) == 1) {
                return NONE;
            }
            return bitOf(canHold, day);
        }

        boolean isSureOfAll(int days) {
            return stuck == 0 && (days & canLack) == 0;
        }

        boolean allows(int there, int empty) {
            return stuck == 0 && (there & empty) == 0
                && (there & ~canHold) == 0 && (empty & ~canLack) == 0;
        }
    }
}
