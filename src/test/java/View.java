import java.util.ArrayList;
import java.util.List;

/** All that an object tells, call by call, so that two objects can be held side by side. */
final class View {
    private View() {
    }

    /** The last calls change the object, for what it keeps can be seen in no other way: look once, at the end. */
    static List<String> lastOf(NineDrawers x) {
        List<String> told = new ArrayList<>();
        told.add("fault() = " + x.fault());
        for (int what = 0; what <= 7; what++) {
            told.add("count(" + what + ") = " + x.count(what));
        }
        for (int drawer = 0; drawer < 9; drawer++) {
            tellDrawer(x, drawer, told);
        }
        for (int person = 0; person < 6; person++) {
            tellPerson(x, person, told);
        }
        told.add("digest() = " + x.digest());
        told.add("restore() = " + x.restore());
        told.add("digest() after restore() = " + x.digest());
        told.add("forget() = " + x.forget());
        told.add("blank() = " + x.blank());
        return told;
    }

    private static void tellDrawer(NineDrawers x, int drawer, List<String> told) {
        for (int what = 0; what <= 6; what++) {
            told.add("drawer(" + drawer + ", " + what + ") = " + x.drawer(drawer, what));
        }
        for (int day = 0; day < 7; day++) {
            told.add("sure(" + drawer + ", " + day + ") = " + x.sure(drawer, day));
        }
        told.add("delays(" + drawer + ") = " + x.delays(drawer));
    }

    private static void tellPerson(NineDrawers x, int person, List<String> told) {
        for (int what = 0; what <= 2; what++) {
            told.add("about(" + person + ", " + what + ") = " + x.about(person, what));
        }
        for (int what = 0; what <= 1; what++) {
            told.add("who(" + person + ", " + what + ") = " + x.who(person, what));
        }
    }
}
