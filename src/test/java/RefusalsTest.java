import java.util.List;
import java.util.function.Supplier;
import java.util.function.ToIntFunction;

/**
 * "Refusals, of several the first as told by each call ...; they change nothing": each call with numbers
 * one below the least and one above the most, in each state that refuses something, on an object of its own
 * that is then held beside one that was not asked.
 */
public final class RefusalsTest {
    private static final int UNKNOWN = -101, OUTSIDE = -102, STATE = -103, FULL = -104;
    private static final int LEAST = Integer.MIN_VALUE, MOST = Integer.MAX_VALUE;
    private static final Checks C = new Checks("RefusalsTest");

    private static Supplier<NineDrawers> state;
    private static String stateName;
    private static List<String> untouched;

    // ---- the states

    /** No CHEST, an empty PAGE. */
    private static NineDrawers nothing() {
        return new NineDrawers();
    }

    /** No CHEST, a PAGE that is none yet. */
    private static NineDrawers written() {
        NineDrawers x = new NineDrawers();
        Checks.write(x, "yzabcdaaa");
        return x;
    }

    /** A CHEST, and nothing else. */
    private static NineDrawers standing() {
        return Checks.chestOf("yzabcdaaa2");
    }

    /** Something of everything, and an IMAGE that is not as it is now. */
    private static NineDrawers busy() {
        NineDrawers x = Checks.chestOf("abzcydaaa1");
        x.person(2, 1, 0);
        x.person(4, 0, 3);
        x.lay(0, 2, true);
        x.found(1, 2, false);
        x.few(1, 1, 0);
        x.image();
        x.lay(1, 4, true);
        x.found(8, 6, true);
        x.move(1, 8);
        x.person(3, 8, 6);
        x.face(0);
        Checks.write(x, "a7");
        return x;
    }

    /** THE PAGE, the PEOPLE, what is FOUND and the FEW are full. */
    private static NineDrawers full() {
        NineDrawers x = busy();
        for (int n = 3; n < 6; n++) {
            x.person(1, n, n);
        }
        for (int n = 2; n < 8; n++) {
            x.found(n, n - 1, n % 2 == 0);
        }
        for (int n = 1; n < 40; n++) {
            x.few(n % 9, n, 0);
        }
        Checks.write(x, "aaaaaaaaaa");
        return x;
    }

    /** An IMAGE was kept of another CHEST. */
    private static NineDrawers replaced() {
        NineDrawers x = Checks.chestOf("ddddddddd1");
        x.person(2, 8, 6);
        x.lay(8, 6, true);
        x.found(8, 6, true);
        x.image();
        Checks.write(x, "ddddddddd1");
        x.chest();
        x.person(1, 0, 0);
        return x;
    }

    // ---- one refusal

    private static void in(String name, Supplier<NineDrawers> made) {
        stateName = name;
        state = made;
        untouched = View.lastOf(made.get());
    }

    private static void due(int promise, String call, ToIntFunction<NineDrawers> ask, int want) {
        C.part("promise " + promise + ", " + stateName);
        NineDrawers x = state.get();
        C.due(call, ask.applyAsInt(x), want);
        List<String> seen = View.lastOf(x);
        C.due("things told after the refused " + call, seen.size(), untouched.size());
        for (int i = 0; i < seen.size() && i < untouched.size(); i++) {
            boolean same = seen.get(i).equals(untouched.get(i));
            C.due("the refused " + call + " made it '" + seen.get(i) + "' where it was '" + untouched.get(i)
                + "': the same", same ? 1 : 0, 1);
        }
    }

    // ---- promises 2 to 6

    private static void letters(boolean pageIsFull) {
        for (int code : new int[] {LEAST, -1, 0, 31, 127, 128, MOST}) {
            due(2, "letter(" + code + ")", x -> x.letter(code), OUTSIDE);
        }
        for (int code : new int[] {32, 'a', 126}) {
            if (pageIsFull) {
                due(2, "letter(" + code + ") above 12", x -> x.letter(code), FULL);
            }
        }
    }

    private static void chests() {
        due(5, "chest() of a PAGE that is none", x -> x.chest(), STATE);
    }

    private static void faces(boolean isChest) {
        for (int f : new int[] {LEAST, -1, 4, MOST}) {
            due(6, "face(" + f + ")", x -> x.face(f), OUTSIDE);
        }
        for (int f = 0; f <= 3 && !isChest; f++) {
            int to = f;
            due(6, "face(" + f + ") without a CHEST", x -> x.face(to), STATE);
        }
    }

    // ---- calls of a DRAWER: promises 7, 13, 14, 15, 16, 18, 12

    private static void noDrawer(int drawer) {
        for (int what : new int[] {LEAST, -1, 0, 6, 7, MOST}) {
            due(7, "drawer(" + drawer + ", " + what + ")", x -> x.drawer(drawer, what), UNKNOWN);
        }
        for (int day : new int[] {-1, 0, 6, 7}) {
            due(12, "lay(" + drawer + ", " + day + ", true)", x -> x.lay(drawer, day, true), UNKNOWN);
            due(12, "lay(" + drawer + ", " + day + ", false)", x -> x.lay(drawer, day, false), UNKNOWN);
            due(14, "sure(" + drawer + ", " + day + ")", x -> x.sure(drawer, day), UNKNOWN);
            due(16, "found(" + drawer + ", " + day + ", true)", x -> x.found(drawer, day, true), UNKNOWN);
            due(16, "found(" + drawer + ", " + day + ", false)", x -> x.found(drawer, day, false), UNKNOWN);
            due(8, "person(0, " + drawer + ", " + day + ")", x -> x.person(0, drawer, day), UNKNOWN);
        }
        for (int week : new int[] {-1, 0, 127, 128}) {
            due(13, "agrees(" + drawer + ", " + week + ")", x -> x.agrees(drawer, week), UNKNOWN);
            due(15, "few(" + drawer + ", " + week + ", 0)", x -> x.few(drawer, week, 0), UNKNOWN);
        }
        due(15, "few(" + drawer + ", 0, 2)", x -> x.few(drawer, 0, 2), UNKNOWN);
        due(15, "few(" + drawer + ", 0, -1)", x -> x.few(drawer, 0, -1), UNKNOWN);
        due(18, "delays(" + drawer + ")", x -> x.delays(drawer), UNKNOWN);
    }

    private static void drawers(boolean isChest) {
        for (int drawer : new int[] {LEAST, -1, 9, MOST}) {
            noDrawer(drawer);
        }
        for (int drawer = 0; drawer < 9; drawer += 8) {
            if (isChest) {
                drawerOutside(drawer);
            } else {
                noDrawer(drawer);
            }
        }
    }

    /** The DRAWER is there, the other number is not as told. */
    private static void drawerOutside(int drawer) {
        for (int what : new int[] {LEAST, -1, 7, MOST}) {
            due(7, "drawer(" + drawer + ", " + what + ")", x -> x.drawer(drawer, what), OUTSIDE);
        }
        for (int day : new int[] {LEAST, -1, 7, MOST}) {
            due(12, "lay(" + drawer + ", " + day + ", true)", x -> x.lay(drawer, day, true), UNKNOWN);
            due(12, "lay(" + drawer + ", " + day + ", false)", x -> x.lay(drawer, day, false), UNKNOWN);
            due(14, "sure(" + drawer + ", " + day + ")", x -> x.sure(drawer, day), UNKNOWN);
            due(16, "found(" + drawer + ", " + day + ", true)", x -> x.found(drawer, day, true), UNKNOWN);
            due(16, "found(" + drawer + ", " + day + ", false)", x -> x.found(drawer, day, false), UNKNOWN);
            due(8, "person(0, " + drawer + ", " + day + ")", x -> x.person(0, drawer, day), UNKNOWN);
        }
        for (int week : new int[] {LEAST, -1, 128, MOST}) {
            due(13, "agrees(" + drawer + ", " + week + ")", x -> x.agrees(drawer, week), OUTSIDE);
            due(15, "few(" + drawer + ", " + week + ", 0)", x -> x.few(drawer, week, 0), OUTSIDE);
            due(15, "few(" + drawer + ", " + week + ", 1)", x -> x.few(drawer, week, 1), OUTSIDE);
        }
        for (int what : new int[] {LEAST, -1, 2, MOST}) {
            due(15, "few(" + drawer + ", 0, " + what + ")", x -> x.few(drawer, 0, what), OUTSIDE);
            due(15, "few(" + drawer + ", 127, " + what + ")", x -> x.few(drawer, 127, what), OUTSIDE);
        }
    }

    /** All else is well, but no more goes in. */
    private static void drawersFull() {
        for (int drawer = 0; drawer < 9; drawer += 8) {
            int of = drawer;
            for (int kind = 0; kind < 5; kind++) {
                int k = kind;
                due(8, "person(" + k + ", " + of + ", 6), a seventh", x -> x.person(k, of, 6), FULL);
            }
            due(15, "few(" + of + ", 0, 0), the 41st", x -> x.few(of, 0, 0), STATE);
            due(15, "few(" + of + ", 127, 1), the 41st", x -> x.few(of, 127, 1), STATE);
            due(16, "found(" + of + ", 0, true), a ninth", x -> x.found(of, 0, true), FULL);
            due(16, "found(" + of + ", 6, false), a ninth", x -> x.found(of, 6, false), FULL);
        }
    }

    // ---- PEOPLE: promises 8, 9, 10, 11, 19

    private static void kinds() {
        for (int kind : new int[] {LEAST, -1, 5, MOST}) {
            due(8, "person(" + kind + ", 0, 0)", x -> x.person(kind, 0, 0), OUTSIDE);
            due(8, "person(" + kind + ", 9, 0)", x -> x.person(kind, 9, 0), OUTSIDE);
            due(8, "person(" + kind + ", 0, 7)", x -> x.person(kind, 0, 7), OUTSIDE);
            due(8, "person(" + kind + ", -1, -1)", x -> x.person(kind, -1, -1), OUTSIDE);
        }
    }

    private static void noPerson(int person) {
        for (int what : new int[] {-1, 0, 2, 3, 10, 16, 17, 20, 26, 27}) {
            due(9, "about(" + person + ", " + what + ")", x -> x.about(person, what), UNKNOWN);
        }
        for (int kind : new int[] {-1, 0, 4, 5}) {
            due(10, "as(" + person + ", " + kind + ")", x -> x.as(person, kind), UNKNOWN);
        }
        for (int drawer : new int[] {-1, 0, 8, 9}) {
            due(11, "move(" + person + ", " + drawer + ")", x -> x.move(person, drawer), UNKNOWN);
        }
        for (int what : new int[] {-1, 0, 1, 2}) {
            due(19, "who(" + person + ", " + what + ")", x -> x.who(person, what), UNKNOWN);
        }
    }

    private static void personOutside(int person) {
        for (int what : new int[] {LEAST, -1, 3, 9, 17, 18, 19, 27, MOST}) {
            due(9, "about(" + person + ", " + what + ")", x -> x.about(person, what), OUTSIDE);
        }
        for (int kind : new int[] {LEAST, -1, 5, MOST}) {
            due(10, "as(" + person + ", " + kind + ")", x -> x.as(person, kind), OUTSIDE);
        }
        for (int drawer : new int[] {LEAST, -1, 9, MOST}) {
            due(11, "move(" + person + ", " + drawer + ")", x -> x.move(person, drawer), UNKNOWN);
        }
        for (int what : new int[] {LEAST, -1, 2, MOST}) {
            due(19, "who(" + person + ", " + what + ")", x -> x.who(person, what), OUTSIDE);
        }
    }

    private static void people(int how) {
        for (int person : new int[] {LEAST, -1, how, 6, MOST}) {
            noPerson(person);
        }
        if (how > 0) {
            personOutside(0);
            personOutside(how - 1);
        }
    }

    // ---- promises 20 to 23

    private static void weeks(boolean isChest) {
        for (int times : new int[] {LEAST, -1, 0, 13, MOST}) {
            due(20, "weeks(" + times + ", 0, 0)", x -> x.weeks(times, 0, 0), OUTSIDE);
        }
        for (int seed : new int[] {LEAST, -1}) {
            due(20, "weeks(1, " + seed + ", 0)", x -> x.weeks(1, seed, 0), OUTSIDE);
        }
        for (int what : new int[] {LEAST, -1, 2, MOST}) {
            due(20, "weeks(12, 0, " + what + ")", x -> x.weeks(12, 0, what), OUTSIDE);
        }
        if (!isChest) {
            due(20, "weeks(1, 0, 0) without a CHEST", x -> x.weeks(1, 0, 0), STATE);
            due(20, "weeks(12, MOST, 1) without a CHEST", x -> x.weeks(12, MOST, 1), STATE);
        }
    }

    private static void images(boolean isChest, boolean isImage) {
        if (!isChest) {
            due(21, "image() without a CHEST", x -> x.image(), STATE);
        }
        if (!isImage) {
            due(22, "restore() without an IMAGE of this CHEST", x -> x.restore(), STATE);
        }
    }

    private static void counts() {
        for (int what : new int[] {LEAST, -1, 8, MOST}) {
            due(23, "count(" + what + ")", x -> x.count(what), OUTSIDE);
        }
    }

    // ---- all of them in a state

    private static void all(boolean isChest, boolean isImage, int howManyPeople) {
        chests();
        faces(isChest);
        drawers(isChest);
        kinds();
        people(howManyPeople);
        weeks(isChest);
        images(isChest, isImage);
        counts();
    }

    public static void main(String[] args) {
        in("nothing there yet", RefusalsTest::nothing);
        letters(false);
        all(false, false, 0);
        in("no CHEST, a PAGE", RefusalsTest::written);
        letters(false);
        all(false, false, 0);
        in("a CHEST alone", RefusalsTest::standing);
        letters(false);
        all(true, false, 0);
        in("something of everything", RefusalsTest::busy);
        letters(false);
        all(true, true, 3);
        in("full", RefusalsTest::full);
        letters(true);
        all(true, true, 6);
        drawersFull();
        in("another CHEST since the IMAGE", RefusalsTest::replaced);
        letters(false);
        all(true, false, 1);
        C.end();
    }
}
