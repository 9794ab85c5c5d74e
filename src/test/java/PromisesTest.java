/** For each promise of the document: ordinary answers, its edges, its refusals and their order. */
public final class PromisesTest {
    private static final int NONE = -1, UNKNOWN = -101, OUTSIDE = -102, STATE = -103, FULL = -104;
    private static final int LEAVER = 0, RETURNER = 1, SENDER = 2, WEEKLY = 3, DENIER = 4;
    private static final int LEAST = Integer.MIN_VALUE, MOST = Integer.MAX_VALUE;
    private static final String PLAIN = "aaaaaaaaa0";
    private static final String ALL_DELAYS = "yzabcdaaa0";
    private static final Checks C = new Checks("PromisesTest");

    private static NineDrawers chestOf(String text) {
        return Checks.chestOf(text);
    }

    /** An object on which a refused call is tried: nothing of it may change. */
    private static NineDrawers busy() {
        NineDrawers x = chestOf("abzcydaaa1");
        x.person(SENDER, 1, 0);
        x.person(DENIER, 0, 3);
        x.lay(0, 2, true);
        x.found(1, 2, false);
        x.few(1, 1, 0);
        x.letter('a');
        x.letter('7');
        x.image();
        x.lay(1, 4, true);
        return x;
    }

    private static void refused(NineDrawers x, String call, int got, int want, long before) {
        C.due(call, got, want);
        C.due("digest() after the refused " + call, x.digest(), before);
    }

    // ---- 1

    private static void newObject() {
        C.part("promise 1");
        NineDrawers x = new NineDrawers();
        for (int what = 0; what <= 7; what++) {
            C.due("count(" + what + ")", x.count(what), 0);
        }
        C.due("face(0)", x.face(0), STATE);
        C.due("image()", x.image(), STATE);
        C.due("restore()", x.restore(), STATE);
        C.due("drawer(0, 0)", x.drawer(0, 0), UNKNOWN);
        C.due("blank()", x.blank(), 0);
        C.due("forget()", x.forget(), 0);
        C.due("fault()", x.fault(), 0);
        long h = 853;
        for (int what = 0; what <= 7; what++) {
            h *= 31;
        }
        C.due("digest()", x.digest(), h);
    }

    private static void withoutChest() {
        C.part("no CHEST");
        NineDrawers x = new NineDrawers();
        long before = x.digest();
        refused(x, "face(4)", x.face(4), OUTSIDE, before);
        refused(x, "face(3)", x.face(3), STATE, before);
        refused(x, "drawer(0, 9)", x.drawer(0, 9), UNKNOWN, before);
        refused(x, "person(5, 0, 0)", x.person(5, 0, 0), OUTSIDE, before);
        refused(x, "person(0, 0, 0)", x.person(0, 0, 0), UNKNOWN, before);
        refused(x, "about(0, 0)", x.about(0, 0), UNKNOWN, before);
        refused(x, "as(0, 0)", x.as(0, 0), UNKNOWN, before);
        refused(x, "move(0, 0)", x.move(0, 0), UNKNOWN, before);
        refused(x, "lay(0, 0, true)", x.lay(0, 0, true), UNKNOWN, before);
        refused(x, "agrees(0, 0)", x.agrees(0, 0), UNKNOWN, before);
        refused(x, "agrees(0, 128)", x.agrees(0, 128), UNKNOWN, before);
        refused(x, "sure(0, 0)", x.sure(0, 0), UNKNOWN, before);
        refused(x, "few(0, 0, 0)", x.few(0, 0, 0), UNKNOWN, before);
        refused(x, "found(0, 0, true)", x.found(0, 0, true), UNKNOWN, before);
        refused(x, "delays(0)", x.delays(0), UNKNOWN, before);
        refused(x, "who(0, 0)", x.who(0, 0), UNKNOWN, before);
        refused(x, "weeks(0, 0, 0)", x.weeks(0, 0, 0), OUTSIDE, before);
        refused(x, "weeks(1, 0, 0)", x.weeks(1, 0, 0), STATE, before);
        refused(x, "chest()", x.chest(), STATE, before);
        refused(x, "image()", x.image(), STATE, before);
        refused(x, "restore()", x.restore(), STATE, before);
        refused(x, "count(8)", x.count(8), OUTSIDE, before);
    }

    // ---- 2, 3, 4, 5

    private static void letters() {
        C.part("promise 2");
        NineDrawers x = new NineDrawers();
        C.due("letter(31)", x.letter(31), OUTSIDE);
        C.due("letter(127)", x.letter(127), OUTSIDE);
        C.due("letter(LEAST)", x.letter(LEAST), OUTSIDE);
        C.due("letter(MOST)", x.letter(MOST), OUTSIDE);
        C.due("count(5)", x.count(5), 0);
        C.due("letter(32)", x.letter(32), 1);
        C.due("letter(126)", x.letter(126), 2);
        for (int n = 3; n <= 12; n++) {
            C.due("letter(97), " + n, x.letter('a'), n);
        }
        long before = x.digest();
        refused(x, "letter(97) above 12", x.letter('a'), FULL, before);
        refused(x, "letter(31) above 12", x.letter(31), OUTSIDE, before);
        C.due("count(5)", x.count(5), 12);
    }

    private static void blanks() {
        C.part("promise 3");
        NineDrawers x = new NineDrawers();
        Checks.write(x, "yzabcdaaa3??");
        C.due("blank()", x.blank(), 12);
        C.due("count(5)", x.count(5), 0);
        C.due("blank() again", x.blank(), 0);
        C.due("letter(97)", x.letter('a'), 1);
    }

    private static int faultOf(String text) {
        NineDrawers x = new NineDrawers();
        Checks.write(x, text);
        int fault = x.fault();
        C.due("count(5) after fault() of " + text, x.count(5), text.length());
        return fault;
    }

    private static void faults() {
        C.part("promise 4");
        C.due("fault() of nothing", faultOf(""), 0);
        C.due("fault() of all letters", faultOf("yzabcd"), 6);
        C.due("fault() of nine letters", faultOf("yzabcdyza"), 9);
        for (char facing = '0'; facing <= '3'; facing++) {
            C.due("fault() of a chest facing " + facing, faultOf("aaaaaaaaa" + facing), 10);
        }
        C.due("fault() of x", faultOf("x"), 0);
        C.due("fault() of {", faultOf("a{"), 1);
        C.due("fault() of `", faultOf("ab`"), 2);
        C.due("fault() of e", faultOf("abce"), 3);
        C.due("fault() of a digit too soon", faultOf("aaaaaaaa0"), 8);
        C.due("fault() of FACING 4", faultOf("aaaaaaaaa4"), 9);
        C.due("fault() of FACING /", faultOf("aaaaaaaaa/"), 9);
        C.due("fault() of a tenth letter", faultOf("aaaaaaaaaa"), 9);
        C.due("fault() of eleven", faultOf("aaaaaaaaa00"), 10);
        C.due("fault() of twelve", faultOf("aaaaaaaaa0a0"), 10);
        C.due("fault(), the first of two", faultOf("aAaaaBaaa9"), 1);
        NineDrawers x = new NineDrawers();
        Checks.write(x, "aaaaaa");
        x.blank();
        Checks.write(x, "bb");
        C.due("fault(): letters of a page before do not count", x.fault(), 2);
    }

    private static void chests() {
        C.part("promise 5");
        NineDrawers x = new NineDrawers();
        C.due("chest() of nothing", x.chest(), STATE);
        Checks.write(x, "aaaaaaaaa");
        C.due("chest() of nine", x.chest(), STATE);
        C.due("count(5)", x.count(5), 9);
        x.letter('4');
        C.due("chest() facing 4", x.chest(), STATE);
        x.blank();
        Checks.write(x, "aaaaaaaaa00");
        C.due("chest() of eleven", x.chest(), STATE);
        C.due("count(6)", x.count(6), 0);
        x.blank();
        Checks.write(x, "yzabcdaaa2");
        C.due("chest()", x.chest(), 5);
        C.due("count(5)", x.count(5), 0);
        C.due("count(6)", x.count(6), 1);
        C.due("count(1)", x.count(1), 2);
        C.due("chest() of no page", x.chest(), STATE);
        C.due("count(6) then", x.count(6), 1);
        C.due("chest() of no delay", chestOf(PLAIN).count(6), 1);
    }

    private static void anotherChest() {
        C.part("promise 5, another");
        NineDrawers x = busy();
        long before = x.digest();
        refused(x, "chest()", x.chest(), STATE, before);
        C.due("restore() is not gone by that", x.restore(), 2);
        x.blank();
        Checks.write(x, "ddddddddd3");
        C.due("chest()", x.chest(), 9);
        C.due("count(1)", x.count(1), 3);
        C.due("count(2)", x.count(2), 0);
        C.due("count(3)", x.count(3), 0);
        C.due("count(4)", x.count(4), 0);
        C.due("count(6)", x.count(6), 2);
        C.due("count(7) goes on", x.count(7), 1);
        C.due("drawer(1, 2)", x.drawer(1, 2), 0);
        C.due("drawer(1, 3)", x.drawer(1, 3), 0);
        C.due("about(0, 0)", x.about(0, 0), UNKNOWN);
        C.due("restore()", x.restore(), STATE);
        C.due("delays(1): what was FOUND is gone", x.delays(1), 255);
        C.due("person(0, 0, 0)", x.person(LEAVER, 0, 0), 0);
    }

    // ---- 6, 7

    private static void faces() {
        C.part("promise 6");
        NineDrawers x = chestOf("aaaaaaaaa1");
        C.due("face(3)", x.face(3), 1);
        C.due("face(0)", x.face(0), 3);
        C.due("face(2)", x.face(2), 0);
        C.due("face(2) again", x.face(2), 2);
        long before = x.digest();
        refused(x, "face(4)", x.face(4), OUTSIDE, before);
        refused(x, "face(-1)", x.face(-1), OUTSIDE, before);
        refused(x, "face(MOST)", x.face(MOST), OUTSIDE, before);
        C.due("count(1)", x.count(1), 2);
    }

    private static void delayAndAhead() {
        C.part("promise 7, DELAY and AHEAD");
        NineDrawers x = chestOf(ALL_DELAYS);
        int[] facings = {0, 1, 2, 3};
        for (int facing : facings) {
            x.face(facing);
            for (int i = 0; i < 6; i++) {
                int delay = i - 2;
                int[] ahead = {delay, delay + 1, -delay, 0};
                C.due("drawer(" + i + ", 0) facing " + facing, x.drawer(i, 0), delay + 10);
                C.due("drawer(" + i + ", 1) facing " + facing, x.drawer(i, 1), ahead[facing] + 10);
            }
        }
        C.due("drawer(8, 0)", x.drawer(8, 0), 10);
    }

    private static void peopleAndLaid() {
        C.part("promise 7, PEOPLE and LAID");
        NineDrawers x = chestOf(PLAIN);
        x.person(LEAVER, 8, 0);
        x.person(LEAVER, 2, 0);
        x.person(LEAVER, 8, 0);
        C.due("drawer(8, 2)", x.drawer(8, 2), 5);
        C.due("drawer(2, 2)", x.drawer(2, 2), 2);
        C.due("drawer(0, 2)", x.drawer(0, 2), 0);
        x.lay(8, 0, true);
        x.lay(8, 6, true);
        C.due("drawer(8, 3)", x.drawer(8, 3), 65);
        C.due("drawer(7, 3)", x.drawer(7, 3), 0);
    }

    private static void weeksOfDrawer() {
        C.part("promise 7, WEEKS");
        NineDrawers x = chestOf(PLAIN);
        C.due("drawer(0, 4)", x.drawer(0, 4), 1);
        C.due("drawer(0, 5)", x.drawer(0, 5), NONE);
        C.due("drawer(0, 6)", x.drawer(0, 6), 0);
        x.person(RETURNER, 0, 0);
        C.due("RETURNER: drawer(0, 4)", x.drawer(0, 4), 128);
        x.lay(0, 1, true);
        x.lay(0, 4, true);
        C.due("laid: drawer(0, 4)", x.drawer(0, 4), 32);
        C.due("laid: drawer(0, 6)", x.drawer(0, 6), 18);
        x.person(DENIER, 1, 0);
        x.person(WEEKLY, 1, 1);
        x.lay(1, 2, true);
        C.due("DENIER: drawer(1, 4)", x.drawer(1, 4), 0);
        C.due("DENIER: drawer(1, 5)", x.drawer(1, 5), 3);
        C.due("DENIER: drawer(1, 6)", x.drawer(1, 6), NONE);
        for (int day = 3; day <= 6; day++) {
            x.lay(1, day, true);
        }
        x.person(SENDER, 2, 0);
        C.due("SENDER: drawer(2, 5)", x.drawer(2, 5), 0);
        C.due("all laid: drawer(1, 4)", x.drawer(1, 4), 1);
        C.due("all laid: drawer(1, 5)", x.drawer(1, 5), NONE);
        C.due("all laid: drawer(1, 6)", x.drawer(1, 6), 126);
    }

    private static void lostDays() {
        C.part("promise 7, DAYS of no week");
        NineDrawers x = chestOf("ydaaaaaaa0");
        x.lay(0, 1, true);
        x.lay(0, 2, true);
        C.due("back: drawer(0, 6)", x.drawer(0, 6), 1);
        x.lay(1, 3, true);
        x.lay(1, 4, true);
        C.due("ahead: drawer(1, 6)", x.drawer(1, 6), 64);
        x.face(1);
        C.due("4 ahead: drawer(1, 6)", x.drawer(1, 6), 0);
        x.lay(1, 2, true);
        C.due("4 ahead, day 2: drawer(1, 6)", x.drawer(1, 6), 64);
        x.face(2);
        C.due("3 back: drawer(1, 6)", x.drawer(1, 6), 3);
        x.lay(1, 2, false);
        x.person(SENDER, 1, 0);
        C.due("3 back, SENDER: drawer(1, 4)", x.drawer(1, 4), 1);
        C.due("3 back, SENDER: drawer(1, 6)", x.drawer(1, 6), 15);
    }

    private static void drawerRefusals() {
        C.part("promise 7, refusals");
        NineDrawers x = busy();
        long before = x.digest();
        refused(x, "drawer(-1, 0)", x.drawer(-1, 0), UNKNOWN, before);
        refused(x, "drawer(9, 0)", x.drawer(9, 0), UNKNOWN, before);
        refused(x, "drawer(9, 7)", x.drawer(9, 7), UNKNOWN, before);
        refused(x, "drawer(0, 7)", x.drawer(0, 7), OUTSIDE, before);
        refused(x, "drawer(0, -1)", x.drawer(0, -1), OUTSIDE, before);
        refused(x, "drawer(MOST, 0)", x.drawer(MOST, 0), UNKNOWN, before);
    }

    // ---- 8, 9, 10, 11, 12

    private static void persons() {
        C.part("promise 8");
        NineDrawers x = busy();
        long before = x.digest();
        refused(x, "person(5, 0, 0)", x.person(5, 0, 0), OUTSIDE, before);
        refused(x, "person(-1, 9, 9)", x.person(-1, 9, 9), OUTSIDE, before);
        refused(x, "person(0, 9, 0)", x.person(0, 9, 0), UNKNOWN, before);
        refused(x, "person(0, -1, 0)", x.person(0, -1, 0), UNKNOWN, before);
        refused(x, "person(0, 0, 7)", x.person(0, 0, 7), UNKNOWN, before);
        refused(x, "person(0, 0, -1)", x.person(0, 0, -1), UNKNOWN, before);
        for (int n = 2; n < 6; n++) {
            C.due("person(3, 8, 6)", x.person(WEEKLY, 8, 6), n);
        }
        before = x.digest();
        refused(x, "person(0, 0, 0), a seventh", x.person(0, 0, 0), FULL, before);
        refused(x, "person(0, 9, 0), a seventh", x.person(0, 9, 0), UNKNOWN, before);
        refused(x, "person(5, 0, 0), a seventh", x.person(5, 0, 0), OUTSIDE, before);
        C.due("count(2)", x.count(2), 6);
    }

    private static void abouts() {
        C.part("promise 9");
        NineDrawers x = chestOf(PLAIN);
        for (int kind = 0; kind < 5; kind++) {
            x.person(kind, kind + 4, 3);
        }
        String[] ifEmpty = {"0000000", "0000000", "1111111", "0001000", "1110111"};
        String[] ifThere = {"0000000", "1111111", "0000000", "0001000", "0000000"};
        for (int p = 0; p < 5; p++) {
            C.due("about(" + p + ", 0)", x.about(p, 0), p);
            C.due("about(" + p + ", 1)", x.about(p, 1), p + 4);
            C.due("about(" + p + ", 2)", x.about(p, 2), 3);
            for (int day = 0; day < 7; day++) {
                C.due("about(" + p + ", 10 + " + day + ")", x.about(p, 10 + day), ifEmpty[p].charAt(day) - '0');
                C.due("about(" + p + ", 20 + " + day + ")", x.about(p, 20 + day), ifThere[p].charAt(day) - '0');
            }
        }
        for (int what : new int[] {-1, 3, 9, 17, 19, 27, LEAST, MOST}) {
            C.due("about(0, " + what + ")", x.about(0, what), OUTSIDE);
        }
        C.due("about(5, 0)", x.about(5, 0), UNKNOWN);
        C.due("about(-1, 3)", x.about(-1, 3), UNKNOWN);
        C.due("about(6, 3)", x.about(6, 3), UNKNOWN);
    }

    private static void casts() {
        C.part("promise 10");
        NineDrawers x = chestOf(PLAIN);
        for (int kind = 0; kind < 5; kind++) {
            x.person(kind, 0, 0);
        }
        String[] is = {"10000", "11000", "10100", "10010", "10101"};
        for (int p = 0; p < 5; p++) {
            for (int kind = 0; kind < 5; kind++) {
                int want = is[p].charAt(kind) == '1' ? p : NONE;
                C.due("as(" + p + ", " + kind + ")", x.as(p, kind), want);
            }
            C.due("about(" + p + ", 0) after", x.about(p, 0), p);
        }
        C.due("as(0, 5)", x.as(0, 5), OUTSIDE);
        C.due("as(0, -1)", x.as(0, -1), OUTSIDE);
        C.due("as(5, 0)", x.as(5, 0), UNKNOWN);
        C.due("as(5, 5)", x.as(5, 5), UNKNOWN);
        C.due("as(-1, -1)", x.as(-1, -1), UNKNOWN);
    }

    private static void moves() {
        C.part("promise 11");
        NineDrawers x = busy();
        C.due("move(0, 8)", x.move(0, 8), 1);
        C.due("move(0, 8) again", x.move(0, 8), 8);
        C.due("about(0, 1)", x.about(0, 1), 8);
        C.due("drawer(1, 2)", x.drawer(1, 2), 0);
        C.due("drawer(8, 2)", x.drawer(8, 2), 1);
        C.due("about(0, 0)", x.about(0, 0), SENDER);
        long before = x.digest();
        refused(x, "move(2, 0)", x.move(2, 0), UNKNOWN, before);
        refused(x, "move(-1, 0)", x.move(-1, 0), UNKNOWN, before);
        refused(x, "move(0, 9)", x.move(0, 9), UNKNOWN, before);
        refused(x, "move(0, -1)", x.move(0, -1), UNKNOWN, before);
    }

    private static void lays() {
        C.part("promise 12");
        NineDrawers x = busy();
        C.due("count(3)", x.count(3), 2);
        C.due("lay(8, 6, false)", x.lay(8, 6, false), 0);
        C.due("lay(8, 6, true)", x.lay(8, 6, true), 0);
        C.due("lay(8, 6, true) again", x.lay(8, 6, true), 1);
        C.due("lay(8, 0, true)", x.lay(8, 0, true), 0);
        C.due("drawer(8, 3)", x.drawer(8, 3), 65);
        C.due("count(3)", x.count(3), 4);
        C.due("lay(8, 6, false)", x.lay(8, 6, false), 1);
        C.due("drawer(8, 3)", x.drawer(8, 3), 1);
        long before = x.digest();
        refused(x, "lay(9, 0, true)", x.lay(9, 0, true), UNKNOWN, before);
        refused(x, "lay(-1, 0, true)", x.lay(-1, 0, true), UNKNOWN, before);
        refused(x, "lay(0, 7, true)", x.lay(0, 7, true), UNKNOWN, before);
        refused(x, "lay(0, -1, true)", x.lay(0, -1, true), UNKNOWN, before);
    }

    // ---- 13, 14, 15

    private static void agreements() {
        C.part("promise 13");
        NineDrawers x = chestOf("abzaaaaaa0");
        x.person(RETURNER, 0, 0);
        x.lay(0, 3, true);
        x.person(SENDER, 1, 0);
        x.person(SENDER, 2, 0);
        for (int week = 0; week < 128; week++) {
            C.due("agrees(0, " + week + ")", x.agrees(0, week), (week & 8) != 0 ? 1 : 0);
            C.due("agrees(1, " + week + ")", x.agrees(1, week), week == 42 ? 1 : 0);
        }
        C.due("agrees(2, 42)", x.agrees(2, 42), 1);
        C.due("agrees(2, 0)", x.agrees(2, 0), 0);
        x.move(1, 3);
        C.due("agrees(3, 0)", x.agrees(3, 0), 0);
        long before = x.digest();
        refused(x, "agrees(0, -1)", x.agrees(0, -1), OUTSIDE, before);
        refused(x, "agrees(0, 128)", x.agrees(0, 128), OUTSIDE, before);
        refused(x, "agrees(9, 0)", x.agrees(9, 0), UNKNOWN, before);
        refused(x, "agrees(-1, 128)", x.agrees(-1, 128), UNKNOWN, before);
    }

    private static void sures() {
        C.part("promise 14");
        NineDrawers x = chestOf("abaaaaaaa0");
        x.person(RETURNER, 0, 0);
        x.lay(0, 5, true);
        C.due("sure(0, 5)", x.sure(0, 5), 1);
        C.due("sure(0, 6)", x.sure(0, 6), NONE);
        x.person(SENDER, 1, 0);
        for (int day = 0; day < 7; day++) {
            C.due("sure(1, " + day + ")", x.sure(1, day), day % 2);
        }
        x.move(1, 2);
        x.lay(2, 0, true);
        C.due("sure(2, 0), none AGREES", x.sure(2, 0), NONE);
        C.due("sure(2, 1), none AGREES", x.sure(2, 1), NONE);
        C.due("sure(3, 0)", x.sure(3, 0), 0);
        long before = x.digest();
        refused(x, "sure(0, 7)", x.sure(0, 7), UNKNOWN, before);
        refused(x, "sure(0, -1)", x.sure(0, -1), UNKNOWN, before);
        refused(x, "sure(9, 0)", x.sure(9, 0), UNKNOWN, before);
        refused(x, "sure(-1, 0)", x.sure(-1, 0), UNKNOWN, before);
    }

    private static void fewDue(NineDrawers x, int drawer, int days, int few, int on) {
        C.due("few(" + drawer + ", " + days + ", 0)", x.few(drawer, days, 0), few);
        C.due("few(" + drawer + ", " + days + ", 1)", x.few(drawer, days, 1), on);
    }

    private static void fews() {
        C.part("promise 15");
        NineDrawers x = chestOf("abzaaaaaa0");
        x.lay(0, 6, true);
        fewDue(x, 0, 0, 0, 0);
        fewDue(x, 0, 9, 2, 9);
        C.due("drawer(0, 3) is as it was", x.drawer(0, 3), 64);
        x.person(RETURNER, 1, 0);
        fewDue(x, 1, 1, NONE, NONE);
        fewDue(x, 1, 127, NONE, NONE);
        fewDue(x, 0, 127, 7, 127);
        fewDue(x, 1, 126, 1, 1);
        fewDue(x, 1, 120, 1, 1);
        x.person(RETURNER, 2, 0);
        fewDue(x, 2, 1, 1, 2);
        fewDue(x, 2, 64, NONE, NONE);
        x.person(DENIER, 3, 4);
        fewDue(x, 3, 0, 6, 111);
        fewDue(x, 3, 16, 7, 127);
        C.due("count(7)", x.count(7), 22);
    }

    private static void fewRefusals() {
        C.part("promise 15, refusals");
        NineDrawers x = busy();
        long before = x.digest();
        refused(x, "few(9, 0, 0)", x.few(9, 0, 0), UNKNOWN, before);
        refused(x, "few(-1, 128, 2)", x.few(-1, 128, 2), UNKNOWN, before);
        refused(x, "few(0, 128, 0)", x.few(0, 128, 0), OUTSIDE, before);
        refused(x, "few(0, -1, 0)", x.few(0, -1, 0), OUTSIDE, before);
        refused(x, "few(0, 0, 2)", x.few(0, 0, 2), OUTSIDE, before);
        refused(x, "few(0, 0, -1)", x.few(0, 0, -1), OUTSIDE, before);
        for (int n = 2; n <= 40; n++) {
            C.due("few(2, 64, " + n % 2 + "), " + n, x.few(2, 64, n % 2), n % 2 == 0 ? 1 : 64);
            C.due("count(7)", x.count(7), n);
        }
        before = x.digest();
        refused(x, "few(2, 64, 0), the 41st", x.few(2, 64, 0), STATE, before);
        refused(x, "few(2, 128, 0), the 41st", x.few(2, 128, 0), OUTSIDE, before);
        refused(x, "few(9, 0, 0), the 41st", x.few(9, 0, 0), UNKNOWN, before);
        C.due("restore()", x.restore(), 2);
        C.due("few() after restore()", x.few(2, 64, 0), STATE);
        x.blank();
        Checks.write(x, PLAIN);
        x.chest();
        C.due("few() after another CHEST", x.few(0, 0, 0), STATE);
        C.due("count(7)", x.count(7), 40);
    }

    // ---- 16, 17, 18, 19

    private static void findings() {
        C.part("promise 16");
        NineDrawers x = busy();
        long before = x.digest();
        refused(x, "found(9, 0, true)", x.found(9, 0, true), UNKNOWN, before);
        refused(x, "found(-1, 0, true)", x.found(-1, 0, true), UNKNOWN, before);
        refused(x, "found(0, 7, true)", x.found(0, 7, true), UNKNOWN, before);
        refused(x, "found(0, -1, true)", x.found(0, -1, true), UNKNOWN, before);
        for (int n = 2; n <= 8; n++) {
            C.due("found(0, 6, true)", x.found(0, 6, true), n);
        }
        before = x.digest();
        refused(x, "found(1, 1, false), a ninth", x.found(1, 1, false), FULL, before);
        refused(x, "found(0, 7, true), a ninth", x.found(0, 7, true), UNKNOWN, before);
        C.due("count(4)", x.count(4), 8);
    }

    private static void forgets() {
        C.part("promise 17");
        NineDrawers x = chestOf(PLAIN);
        x.found(0, 0, true);
        x.found(0, 1, true);
        C.due("delays(0)", x.delays(0), 0);
        C.due("forget()", x.forget(), 2);
        C.due("count(4)", x.count(4), 0);
        C.due("delays(0)", x.delays(0), 255);
        C.due("forget() again", x.forget(), 0);
        C.due("found(8, 0, false)", x.found(8, 0, false), 1);
        x.lay(8, 0, true);
        C.due("delays(8)", x.delays(8), 255 - 8);
        C.due("forget(): what was not there, too", x.forget(), 1);
        C.due("delays(8)", x.delays(8), 255);
    }

    private static void delaysOfDrawer() {
        C.part("promise 18");
        NineDrawers x = chestOf("abaaaaaaa0");
        x.lay(0, 3, true);
        for (int ahead = -3; ahead <= 3; ahead++) {
            x.found(0, 3 + ahead, true);
            C.due("delays(0), found on " + (3 + ahead), x.delays(0), 1 << (ahead + 3));
            x.forget();
        }
        x.lay(0, 2, true);
        x.found(0, 6, true);
        C.due("delays(0), 3 or 4", x.delays(0), 64 | 128);
        x.found(0, 5, true);
        C.due("delays(0), 3", x.delays(0), 64);
        C.due("delays(1), nothing is found of it", x.delays(1), 255);
        x.person(SENDER, 1, 0);
        C.due("delays(1), SENDER", x.delays(1), 255 - 8);
        x.found(1, 0, false);
        C.due("delays(1), on day 0 nothing", x.delays(1), 255 - 8 - 2);
        C.due("delays(1) does not turn it", x.drawer(1, 1), 11);
        x.person(RETURNER, 2, 0);
        x.found(2, 4, true);
        C.due("delays(2), RETURNER", x.delays(2), 8);
        x.found(2, 4, false);
        C.due("delays(2), of both", x.delays(2), 0);
        C.due("delays(9)", x.delays(9), UNKNOWN);
        C.due("delays(-1)", x.delays(-1), UNKNOWN);
    }

    private static void whoDue(NineDrawers x, int person, int many, int least) {
        C.due("who(" + person + ", 0)", x.who(person, 0), many);
        C.due("who(" + person + ", 1)", x.who(person, 1), least);
    }

    private static void whos() {
        C.part("promise 19");
        NineDrawers x = chestOf("baaaaaaaa0");
        x.person(DENIER, 0, 2);
        whoDue(x, 0, 35, 0);
        x.found(0, 1, true);
        whoDue(x, 0, 7 + 1 + 6, 14);
        x.found(0, 4, true);
        whoDue(x, 0, 1, 4 * 7 + 2);
        C.due("about(0, 0) is as it was", x.about(0, 0), DENIER);
        C.due("about(0, 2) is as it was", x.about(0, 2), 2);
        C.due("drawer(0, 6) is as it was", x.drawer(0, 6), 82);
        x.forget();
        x.person(LEAVER, 1, 0);
        whoDue(x, 1, 21, 0);
        x.person(SENDER, 1, 0);
        whoDue(x, 1, 7, 7);
        x.forget();
        x.found(0, 0, true);
        whoDue(x, 0, 0, NONE);
        whoDue(x, 2, 21, 0);
        C.due("who(3, 0)", x.who(3, 0), UNKNOWN);
        C.due("who(-1, 2)", x.who(-1, 2), UNKNOWN);
        C.due("who(0, 2)", x.who(0, 2), OUTSIDE);
        C.due("who(0, -1)", x.who(0, -1), OUTSIDE);
    }

    // ---- 20

    private static void seeds() {
        C.part("promise 20");
        NineDrawers x = chestOf(PLAIN);
        C.due("weeks(1, 0, 0), no PEOPLE", x.weeks(1, 0, 0), 0);
        long seed = 7;
        for (int draw = 0; draw < 12 * 63; draw++) {
            seed = (1103515245L * seed + 12345L) % 2147483648L;
            if ((draw + 1) % 63 == 0) {
                C.due("weeks(" + (draw + 1) / 63 + ", 7, 1)", x.weeks((draw + 1) / 63, 7, 1), seed);
            }
        }
        x.person(SENDER, 4, 0);
        x.person(DENIER, 8, 0);
        for (int day = 0; day < 7; day++) {
            x.lay(4, day, true);
        }
        long before = x.digest();
        C.due("weeks(12, 7, 0): LAID now does not count", x.weeks(12, 7, 0), 24);
        C.due("weeks(1, MOST, 0)", x.weeks(1, MOST, 0), 2);
        C.due("digest(): nothing changed", x.digest(), before);
    }

    private static void drawnDays() {
        C.part("promise 20, DRAWS");
        drawnDay(0);
        drawnDay(3);
        drawnDay(6);
    }

    /** All other DAYS agree anyway: only what is drawn for that one decides. */
    private static void drawnDay(int decides) {
        NineDrawers x = chestOf(PLAIN);
        int denied = decides == 3 ? 5 : 3;
        x.person(DENIER, 5, denied);
        for (int day = 0; day < 7; day++) {
            if (day != decides && day != denied) {
                x.person(WEEKLY, 5, day);
            }
        }
        for (int start = 0; start < 20; start++) {
            long seed = start * 1000003L;
            int stuck = 0;
            for (int draw = 0; draw < 12 * 63; draw++) {
                seed = (1103515245L * seed + 12345L) % 2147483648L;
                if (draw % 63 == 5 * 7 + decides && seed / 65536 % 4 != 0) {
                    stuck++;
                }
            }
            C.due("weeks(12, " + start * 1000003 + ", 0)", x.weeks(12, start * 1000003, 0), stuck);
        }
        x.face(1);
        C.due("weeks(12, 1, 0), one ahead", x.weeks(12, 1, 0), 0);
    }

    private static void weeksRefusals() {
        C.part("promise 20, refusals");
        NineDrawers x = busy();
        long before = x.digest();
        refused(x, "weeks(0, 0, 0)", x.weeks(0, 0, 0), OUTSIDE, before);
        refused(x, "weeks(13, 0, 0)", x.weeks(13, 0, 0), OUTSIDE, before);
        refused(x, "weeks(1, -1, 0)", x.weeks(1, -1, 0), OUTSIDE, before);
        refused(x, "weeks(1, LEAST, 0)", x.weeks(1, LEAST, 0), OUTSIDE, before);
        refused(x, "weeks(1, 0, 2)", x.weeks(1, 0, 2), OUTSIDE, before);
        refused(x, "weeks(1, 0, -1)", x.weeks(1, 0, -1), OUTSIDE, before);
    }

    // ---- 21, 22

    private static void images() {
        C.part("promises 21 and 22");
        NineDrawers x = busy();
        x.blank();
        C.due("image()", x.image(), 2);
        long before = x.digest();
        x.face(2);
        x.move(0, 5);
        x.person(RETURNER, 7, 1);
        x.person(RETURNER, 7, 2);
        x.lay(1, 4, false);
        x.lay(5, 5, true);
        x.found(1, 5, true);
        x.found(2, 5, true);
        C.due("restore()", x.restore(), 2);
        C.due("digest() then", x.digest(), before);
        C.due("about(2, 0)", x.about(2, 0), UNKNOWN);
        x.forget();
        x.face(0);
        for (int i = 0; i < 9; i++) {
            x.lay(i, i % 7, x.lay(i, i % 7, true) == 0);
            x.found(i, 0, true);
            x.move(1, i);
        }
        C.due("restore() again", x.restore(), 2);
        C.due("digest() again", x.digest(), before);
        C.due("person(3, 2, 2)", x.person(WEEKLY, 2, 2), 2);
        C.due("about(2, 0)", x.about(2, 0), WEEKLY);
        C.due("image(), the latest", x.image(), 3);
        C.due("restore(), the latest", x.restore(), 3);
    }

    private static void notInTheImage() {
        C.part("promises 21 and 22, what goes on");
        NineDrawers x = busy();
        x.few(0, 0, 0);
        x.letter('z');
        C.due("restore()", x.restore(), 2);
        C.due("count(5)", x.count(5), 3);
        C.due("count(6)", x.count(6), 1);
        C.due("count(7)", x.count(7), 2);
        C.due("drawer(1, 3)", x.drawer(1, 3), 0);
        NineDrawers y = chestOf(PLAIN);
        long before = y.digest();
        refused(y, "restore(), none kept", y.restore(), STATE, before);
        y.image();
        Checks.write(y, PLAIN);
        y.chest();
        before = y.digest();
        refused(y, "restore(), another CHEST", y.restore(), STATE, before);
        C.due("image()", y.image(), 0);
        C.due("restore()", y.restore(), 0);
    }

    // ---- 23, 24

    private static void counts() {
        C.part("promise 23");
        NineDrawers x = busy();
        int[] want = {9, 1, 2, 2, 1, 2, 1, 1};
        for (int what = 0; what <= 7; what++) {
            C.due("count(" + what + ")", x.count(what), want[what]);
        }
        x.face(3);
        C.due("count(0): both are stuck", x.count(0), 7);
        for (int day = 0; day < 7; day++) {
            x.lay(1, day, true);
        }
        C.due("count(0): all is laid in one", x.count(0), 8);
        C.due("count(3)", x.count(3), 8);
        long before = x.digest();
        refused(x, "count(-1)", x.count(-1), OUTSIDE, before);
        refused(x, "count(8)", x.count(8), OUTSIDE, before);
    }

    private static long digestByCalls(NineDrawers x, String page) {
        long h = 853;
        for (int i = 0; i < 9 && x.drawer(0, 0) != UNKNOWN; i++) {
            for (int what = 0; what <= 6; what++) {
                h = 31 * h + x.drawer(i, what);
            }
            for (int day = 0; day <= 6; day++) {
                h = 31 * h + x.sure(i, day);
            }
            h = 31 * h + x.delays(i);
        }
        for (int p = 0; p < x.count(2); p++) {
            for (int what = 0; what <= 2; what++) {
                h = 31 * h + x.about(p, what);
            }
            for (int what = 0; what <= 1; what++) {
                h = 31 * h + x.who(p, what);
            }
        }
        for (int i = 0; i < page.length(); i++) {
            h = 31 * h + page.charAt(i);
        }
        for (int what = 0; what <= 7; what++) {
            h = 31 * h + x.count(what);
        }
        return h;
    }

    private static void digests() {
        C.part("promise 24");
        NineDrawers x = new NineDrawers();
        C.due("digest() of a new one", x.digest(), digestByCalls(x, ""));
        x.letter('q');
        C.due("digest() of a page", x.digest(), digestByCalls(x, "q"));
        C.due("digest() of busy()", busy().digest(), digestByCalls(busy(), "a7"));
        NineDrawers y = busy();
        C.due("digest()", y.digest(), y.digest());
        y.restore();
        C.due("digest() after restore()", y.digest(), digestByCalls(y, "a7"));
        y.blank();
        C.due("digest() after blank()", y.digest(), digestByCalls(y, ""));
    }

    public static void main(String[] args) {
        newObject();
        withoutChest();
        letters();
        blanks();
        faults();
        chests();
        anotherChest();
        faces();
        delayAndAhead();
        peopleAndLaid();
        weeksOfDrawer();
        lostDays();
        drawerRefusals();
        persons();
        abouts();
        casts();
        moves();
        lays();
        agreements();
        sures();
        fews();
        fewRefusals();
        findings();
        forgets();
        delaysOfDrawer();
        whos();
        seeds();
        drawnDays();
        weeksRefusals();
        images();
        notInTheImage();
        counts();
        digests();
        C.end();
    }
}
