import java.util.List;
import java.util.function.ToLongFunction;

/**
 * What a call changes, and that all else is told as before: each call that is not refused is asked of an
 * object that is then held beside one that was not asked.
 */
public final class ChangesTest {
    private static final Checks C = new Checks("ChangesTest");

    /** Something of everything, and an IMAGE that is not as it is now. */
    private static NineDrawers busy() {
        NineDrawers x = Checks.chestOf("abzcydaaa1");
        x.person(2, 1, 0);
        x.person(4, 0, 3);
        x.lay(0, 2, true);
        x.found(1, 4, false);
        x.image();
        x.face(0);
        x.person(1, 2, 5);
        x.lay(2, 4, true);
        x.found(2, 3, true);
        x.found(0, 0, false);
        x.few(1, 1, 0);
        Checks.write(x, "a7");
        return x;
    }

    /** A digest is of all that is told, so it may differ where anything may. */
    private static boolean mayDiffer(String line, String[] starts) {
        boolean may = starts.length > 0 && line.startsWith("digest() = ");
        for (String start : starts) {
            may |= line.startsWith(start);
        }
        return may;
    }

    /** Of the lines of View only those that start so may differ, and of each start one must. */
    private static void changes(int promise, String call, ToLongFunction<NineDrawers> ask, String... starts) {
        C.part("promise " + promise + ", " + call);
        NineDrawers x = busy();
        ask.applyAsLong(x);
        List<String> seen = View.lastOf(x);
        List<String> before = View.lastOf(busy());
        C.due("things told", seen.size(), before.size());
        boolean[] moved = new boolean[starts.length];
        for (int i = 0; i < seen.size() && i < before.size(); i++) {
            boolean same = seen.get(i).equals(before.get(i));
            if (!mayDiffer(before.get(i), starts)) {
                C.due("'" + seen.get(i) + "' where it was '" + before.get(i) + "': the same", same ? 1 : 0, 1);
            }
            for (int s = 0; s < starts.length; s++) {
                moved[s] |= !same && before.get(i).startsWith(starts[s]);
            }
        }
        for (int s = 0; s < starts.length; s++) {
            C.due(starts[s] + ".. is another than before", moved[s] ? 1 : 0, 1);
        }
    }

    private static void asks(int promise, String call, ToLongFunction<NineDrawers> ask) {
        changes(promise, call + ", which changes nothing", ask);
    }

    // ---- calls that only ask

    private static void asksOfDrawers() {
        for (int drawer = 0; drawer < 9; drawer++) {
            int d = drawer;
            for (int what = 0; what <= 6; what++) {
                int w = what;
                asks(7, "drawer(" + d + ", " + w + ")", x -> x.drawer(d, w));
                asks(14, "sure(" + d + ", " + w + ")", x -> x.sure(d, w));
            }
            for (int week : new int[] {0, 42, 127}) {
                asks(13, "agrees(" + d + ", " + week + ")", x -> x.agrees(d, week));
            }
            asks(18, "delays(" + d + ")", x -> x.delays(d));
        }
    }

    private static void asksOfPeople() {
        for (int person = 0; person < 3; person++) {
            int p = person;
            for (int what : new int[] {0, 1, 2, 10, 13, 16, 20, 23, 26}) {
                asks(9, "about(" + p + ", " + what + ")", x -> x.about(p, what));
            }
            for (int kind = 0; kind < 5; kind++) {
                int k = kind;
                asks(10, "as(" + p + ", " + k + ")", x -> x.as(p, k));
            }
            asks(19, "who(" + p + ", 0)", x -> x.who(p, 0));
            asks(19, "who(" + p + ", 1)", x -> x.who(p, 1));
        }
    }

    private static void asksOfAll() {
        asks(4, "fault()", x -> x.fault());
        for (int times = 1; times <= 12; times += 11) {
            int t = times;
            asks(20, "weeks(" + t + ", 77, 0)", x -> x.weeks(t, 77, 0));
            asks(20, "weeks(" + t + ", 77, 1)", x -> x.weeks(t, 77, 1));
        }
        for (int what = 0; what <= 7; what++) {
            int w = what;
            asks(23, "count(" + w + ")", x -> x.count(w));
        }
        asks(24, "digest()", x -> x.digest());
    }

    // ---- calls that change something

    private static void page() {
        String[] kept = {"fault()", "count(5)", "blank()", "digest() after restore()"};
        changes(2, "letter(97)", x -> x.letter('a'), kept[1], kept[2], kept[3]);
        changes(3, "blank()", x -> x.blank(), kept);
    }

    private static void facing() {
        changes(6, "face(3)", x -> x.face(3), "count(0)", "count(1)", "who(0", "who(2",
            "drawer(1, 1)", "drawer(1, 4)", "drawer(1, 5)", "drawer(1, 6)", "sure(1",
            "drawer(2, 1)", "drawer(2, 4)", "drawer(2, 6)", "sure(2",
            "drawer(3, 1)", "drawer(4, 1)", "drawer(5, 1)");
        asks(6, "face(0), as it is", x -> x.face(0));
    }

    private static void peopleAndThings() {
        changes(8, "person(1, 8, 6)", x -> x.person(1, 8, 6), "count(2)", "drawer(8, 2)", "drawer(8, 4)", "sure(8",
            "about(3, 0)", "about(3, 1)", "about(3, 2)", "who(3, 0)", "who(3, 1)");
        changes(11, "move(0, 8)", x -> x.move(0, 8), "count(0)", "about(0, 1)", "who(0, 0)",
            "drawer(1, 2)", "drawer(1, 6)", "sure(1", "delays(1)",
            "drawer(8, 2)", "drawer(8, 4)", "drawer(8, 5)", "drawer(8, 6)", "sure(8", "delays(8)");
        asks(11, "move(0, 1), where he is", x -> x.move(0, 1));
        changes(12, "lay(8, 6, true)", x -> x.lay(8, 6, true), "count(3)", "drawer(8, 3)", "drawer(8, 6)", "sure(8, 6)");
        changes(12, "lay(2, 4, false)", x -> x.lay(2, 4, false), "count(3)",
            "drawer(2, 3)", "drawer(2, 6)", "sure(2, 3)", "sure(2, 2)", "sure(2, 1)", "sure(2, 0)", "delays(2)", "who(2");
        asks(12, "lay(2, 4, true), as it is", x -> x.lay(2, 4, true));
        asks(12, "lay(8, 6, false), as it is", x -> x.lay(8, 6, false));
    }

    private static void few() {
        for (int what = 0; what <= 1; what++) {
            int w = what;
            changes(15, "few(2, 1, " + w + ")", x -> x.few(2, 1, w), "count(7)", "digest() after restore()");
            changes(15, "few(2, 64, " + w + "), NONE", x -> x.few(2, 64, w), "count(7)", "digest() after restore()");
        }
    }

    private static void findings() {
        changes(16, "found(8, 6, true)", x -> x.found(8, 6, true), "count(4)", "delays(8)");
        changes(16, "found(8, 6, false)", x -> x.found(8, 6, false), "count(4)");
        changes(17, "forget()", x -> x.forget(), "count(4)", "delays(0)", "delays(1)", "delays(2)", "who(0", "who(1");
    }

    private static void images() {
        changes(21, "image()", x -> x.image(), "restore()", "digest() after restore()", "forget()");
        changes(22, "restore()", x -> x.restore(), "count(0)", "count(1)", "count(2)", "count(3)", "count(4)",
            "drawer(", "sure(", "delays(", "about(2", "who(");
        changes(5, "chest()", x -> readAnother(x), "fault()", "count(", "drawer(", "sure(", "delays(", "about(", "who(",
            "restore()", "digest() after restore()", "forget()", "blank()");
    }

    private static int readAnother(NineDrawers x) {
        x.blank();
        Checks.write(x, "bbbbbbbbb3");
        return x.chest();
    }

    public static void main(String[] args) {
        asksOfDrawers();
        asksOfPeople();
        asksOfAll();
        page();
        facing();
        peopleAndThings();
        few();
        findings();
        images();
        C.end();
    }
}
