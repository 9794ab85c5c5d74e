import java.util.ArrayList;
import java.util.List;
import java.util.Random;

/**
 * Random runs of calls, answered by the class and by a plain model that tries each WEEK, DAY by DAY,
 * as the Terms tell it. The runs are the same each time.
 */
public final class ModelTest {
    private static final int RUNS = 1500;
    private static final Checks CHECKS = new Checks("ModelTest");

    private record Person(int kind, int drawer, int day) {
        boolean puts(int onDay, boolean is) {
            switch (kind) {
                case 0: return false;
                case 1: return is;
                case 2: return !is;
                case 3: return onDay == day;
                default: return !is && onDay != day;
            }
        }

        boolean isA(int k) {
            return k == kind || k == 0 || (k == 2 && kind == 4);
        }
    }

    private record Found(int drawer, int day, boolean is) {
    }

    private record Image(int facing, List<Person> people, boolean[][] laid, List<Found> found) {
    }

    private static final class Model {
        String page = "";
        String chest = null;
        int facing = 0;
        List<Person> people = new ArrayList<>();
        boolean[][] laid = new boolean[9][7];
        List<Found> found = new ArrayList<>();
        Image image = null;
        int read = 0;
        int fews = 0;

        static boolean[][] copy(boolean[][] a) {
            boolean[][] b = new boolean[a.length][];
            for (int i = 0; i < a.length; i++) b[i] = a[i].clone();
            return b;
        }

        int letter(int code) {
            if (code < 32 || code > 126) return -102;
            if (page.length() == 12) return -104;
            page += (char) code;
            return page.length();
        }

        int blank() {
            int n = page.length();
            page = "";
            return n;
        }

        int fault() {
            for (int i = 0; i < page.length(); i++) {
                if (i > 9 || (i < 9 ? "yzabcd" : "0123").indexOf(page.charAt(i)) < 0) return i;
            }
            return page.length();
        }

        int chest() {
            if (!page.matches("[yzabcd]{9}[0123]")) return -103;
            chest = page;
            page = "";
            facing = chest.charAt(9) - '0';
            people = new ArrayList<>();
            laid = new boolean[9][7];
            found = new ArrayList<>();
            image = null;
            read++;
            int n = 0;
            for (int i = 0; i < 9; i++) if (delay(i) != 0) n++;
            return n;
        }

        int face(int f) {
            if (f < 0 || f > 3) return -102;
            if (chest == null) return -103;
            int was = facing;
            facing = f;
            return was;
        }

        int delay(int drawer) {
            return "yzabcd".indexOf(chest.charAt(drawer)) - 2;
        }

        int ahead(int drawer) {
            int[] by = {delay(drawer), delay(drawer) + 1, -delay(drawer), 0};
            return by[facing];
        }

        boolean noDrawer(int d) {
            return chest == null || d < 0 || d > 8;
        }

        static boolean noDay(int d) {
            return d < 0 || d > 6;
        }

        boolean noPerson(int p) {
            return p < 0 || p >= people.size();
        }

        /** Whether by a WEEK there is to be something in a DRAWER on a DAY. */
        static boolean mustBe(int day, int week, int ahead, List<Person> who, boolean[] laid) {
            int from = day - ahead;
            if (noDay(from)) return false;
            if (laid[from]) return true;
            boolean is = (week >> from & 1) == 1;
            for (Person p : who) if (p.puts(from, is)) return true;
            return false;
        }

        static boolean agreesTo(int last, int week, int ahead, List<Person> who, boolean[] laid) {
            for (int day = 0; day <= last; day++) {
                if (mustBe(day, week, ahead, who, laid) != ((week >> day & 1) == 1)) return false;
            }
            return true;
        }

        static List<Integer> agreeing(int ahead, List<Person> who, boolean[] laid) {
            List<Integer> all = new ArrayList<>();
            for (int week = 0; week < 128; week++) if (agreesTo(6, week, ahead, who, laid)) all.add(week);
            return all;
        }

        List<Person> of(int drawer) {
            List<Person> all = new ArrayList<>();
            for (Person p : people) if (p.drawer() == drawer) all.add(p);
            return all;
        }

        List<Integer> agreeing(int drawer) {
            return agreeing(ahead(drawer), of(drawer), laid[drawer]);
        }

        int cannot(int drawer) {
            if (!agreeing(drawer).isEmpty()) return -1;
            for (int day = 0; day < 7; day++) {
                boolean one = false;
                for (int week = 0; week < 128; week++) {
                    one |= agreesTo(day, week, ahead(drawer), of(drawer), laid[drawer]);
                }
                if (!one) return day;
            }
            return -999;
        }

        int drawer(int drawer, int what) {
            if (noDrawer(drawer)) return -101;
            switch (what) {
                case 0: return delay(drawer) + 10;
                case 1: return ahead(drawer) + 10;
                case 2: {
                    int bits = 0;
                    for (int p = 0; p < people.size(); p++) if (people.get(p).drawer() == drawer) bits += 1 << p;
                    return bits;
                }
                case 3: {
                    int bits = 0;
                    for (int d = 0; d < 7; d++) if (laid[drawer][d]) bits += 1 << d;
                    return bits;
                }
                case 4: return agreeing(drawer).size();
                case 5: return cannot(drawer);
                case 6: return agreeing(drawer).isEmpty() ? -1 : agreeing(drawer).get(0);
                default: return -102;
            }
        }

        int person(int kind, int drawer, int day) {
            if (kind < 0 || kind > 4) return -102;
            if (noDrawer(drawer) || noDay(day)) return -101;
            if (people.size() == 6) return -104;
            people.add(new Person(kind, drawer, day));
            return people.size() - 1;
        }

        int about(int person, int what) {
            if (noPerson(person)) return -101;
            Person p = people.get(person);
            if (what == 0) return p.kind();
            if (what == 1) return p.drawer();
            if (what == 2) return p.day();
            if (what >= 10 && what <= 16) return p.puts(what - 10, false) ? 1 : 0;
            if (what >= 20 && what <= 26) return p.puts(what - 20, true) ? 1 : 0;
            return -102;
        }

        int as(int person, int kind) {
            if (noPerson(person)) return -101;
            if (kind < 0 || kind > 4) return -102;
            return people.get(person).isA(kind) ? person : -1;
        }

        int move(int person, int drawer) {
            if (noPerson(person) || noDrawer(drawer)) return -101;
            Person p = people.get(person);
            people.set(person, new Person(p.kind(), drawer, p.day()));
            return p.drawer();
        }

        int lay(int drawer, int day, boolean is) {
            if (noDrawer(drawer) || noDay(day)) return -101;
            int was = laid[drawer][day] ? 1 : 0;
            laid[drawer][day] = is;
            return was;
        }

        int agrees(int drawer, int week) {
            if (noDrawer(drawer)) return -101;
            if (week < 0 || week > 127) return -102;
            return agreeing(drawer).contains(week) ? 1 : 0;
        }

        int sure(int drawer, int day) {
            if (noDrawer(drawer) || noDay(day)) return -101;
            List<Integer> all = agreeing(drawer);
            int with = 0;
            for (int week : all) with += week >> day & 1;
            if (all.isEmpty()) return -1;
            return with == all.size() ? 1 : with == 0 ? 0 : -1;
        }

        int few(int drawer, int days, int what) {
            if (noDrawer(drawer)) return -101;
            if (days < 0 || days > 127 || what < 0 || what > 1) return -102;
            if (fews == 40) return -103;
            fews++;
            for (int n = 0; n <= 7; n++) {
                for (int bits = 0; bits < 128; bits++) {
                    if (Integer.bitCount(bits) == n && makesSure(drawer, days, bits)) return what == 0 ? n : bits;
                }
            }
            return -1;
        }

        static boolean[] asLaid(int bits) {
            boolean[] on = new boolean[7];
            for (int d = 0; d < 7; d++) on[d] = (bits >> d & 1) == 1;
            return on;
        }

        boolean makesSure(int drawer, int days, int bits) {
            List<Integer> all = agreeing(ahead(drawer), of(drawer), asLaid(bits));
            for (int week : all) if ((week & days) != days) return false;
            return !all.isEmpty();
        }

        int found(int drawer, int day, boolean is) {
            if (noDrawer(drawer) || noDay(day)) return -101;
            if (found.size() == 8) return -104;
            found.add(new Found(drawer, day, is));
            return found.size();
        }

        int forget() {
            int n = found.size();
            found = new ArrayList<>();
            return n;
        }

        boolean canBeAsFound(int drawer, List<Integer> all) {
            for (int week : all) {
                boolean good = true;
                for (Found f : found) {
                    good &= f.drawer() != drawer || (week >> f.day() & 1) == (f.is() ? 1 : 0);
                }
                if (good) return true;
            }
            return false;
        }

        int delays(int drawer) {
            if (noDrawer(drawer)) return -101;
            int bits = 0;
            for (int b = 0; b < 8; b++) {
                if (canBeAsFound(drawer, agreeing(b - 3, of(drawer), laid[drawer]))) bits += 1 << b;
            }
            return bits;
        }

        int who(int person, int what) {
            if (noPerson(person)) return -101;
            if (what != 0 && what != 1) return -102;
            Person is = people.get(person);
            int many = 0;
            int least = -1;
            for (int code = 34; code >= 0; code--) {
                people.set(person, new Person(code / 7, is.drawer(), code % 7));
                if (canBeAsFound(is.drawer(), agreeing(is.drawer()))) {
                    many++;
                    least = code;
                }
            }
            people.set(person, is);
            return what == 0 ? many : least;
        }

        int weeks(int times, int seed, int what) {
            if (times < 1 || times > 12 || seed < 0 || what < 0 || what > 1) return -102;
            if (chest == null) return -103;
            long s = seed;
            int none = 0;
            for (int t = 0; t < times; t++) {
                for (int i = 0; i < 9; i++) {
                    boolean[] on = new boolean[7];
                    for (int d = 0; d < 7; d++) {
                        s = (1103515245L * s + 12345L) % (1L << 31);
                        on[d] = s / 65536 % 4 == 0;
                    }
                    if (agreeing(ahead(i), of(i), on).isEmpty()) none++;
                }
            }
            return what == 0 ? none : (int) s;
        }

        int image() {
            if (chest == null) return -103;
            image = new Image(facing, new ArrayList<>(people), copy(laid), new ArrayList<>(found));
            return people.size();
        }

        int restore() {
            if (image == null) return -103;
            facing = image.facing();
            people = new ArrayList<>(image.people());
            laid = copy(image.laid());
            found = new ArrayList<>(image.found());
            return people.size();
        }

        int count(int what) {
            int n = 0;
            switch (what) {
                case 0:
                    for (int i = 0; i < 9; i++) if (chest != null && !agreeing(i).isEmpty()) n++;
                    return n;
                case 1: return facing;
                case 2: return people.size();
                case 3:
                    for (boolean[] days : laid) for (boolean is : days) if (is) n++;
                    return n;
                case 4: return found.size();
                case 5: return page.length();
                case 6: return read;
                case 7: return fews;
                default: return -102;
            }
        }

        long digest() {
            List<Integer> all = new ArrayList<>();
            for (int i = 0; i < 9 && chest != null; i++) {
                for (int what = 0; what <= 6; what++) all.add(drawer(i, what));
                for (int day = 0; day < 7; day++) all.add(sure(i, day));
                all.add(delays(i));
            }
            for (int p = 0; p < people.size(); p++) {
                for (int what = 0; what <= 2; what++) all.add(about(p, what));
                for (int what = 0; what <= 1; what++) all.add(who(p, what));
            }
            for (char c : page.toCharArray()) all.add((int) c);
            for (int what = 0; what <= 7; what++) all.add(count(what));
            long h = 853;
            for (int n : all) h = 31 * h + n;
            return h;
        }
    }

    private final Random random;
    private final NineDrawers x = new NineDrawers();
    private final Model m = new Model();
    private final int chestEvery;

    private ModelTest(int run) {
        random = new Random(run);
        chestEvery = 20 + random.nextInt(100);
    }

    /** A number from 0 to below a bound; now and then one just outside, or far away. */
    private int pick(int bound) {
        int dice = random.nextInt(60);
        if (dice == 0) return -1;
        if (dice == 1) return bound;
        if (dice == 2) return random.nextBoolean() ? Integer.MIN_VALUE : Integer.MAX_VALUE;
        return random.nextInt(bound);
    }

    /** Few DRAWERS are picked often, so that things meet there. */
    private int pickDrawer() {
        return random.nextInt(3) > 0 ? random.nextInt(3) : pick(9);
    }

    private String pickText() {
        StringBuilder text = new StringBuilder();
        for (int i = 0; i < 9; i++) text.append("yzaaabcd".charAt(random.nextInt(8)));
        text.append((char) ('0' + random.nextInt(4)));
        int dice = random.nextInt(8);
        if (dice == 0) text.append((char) (32 + random.nextInt(95)));
        if (dice == 1) text.setLength(random.nextInt(10));
        if (dice == 2) text.setCharAt(random.nextInt(10), "xyzabcde01234/".charAt(random.nextInt(14)));
        return text.toString();
    }

    private void readChest() {
        if (random.nextInt(4) > 0) CHECKS.due("blank()", x.blank(), m.blank());
        String text = pickText();
        for (char c : text.toCharArray()) CHECKS.due("letter(" + (int) c + ")", x.letter(c), m.letter(c));
        CHECKS.due("fault()", x.fault(), m.fault());
        CHECKS.due("chest()", x.chest(), m.chest());
    }

    private void call() {
        int a = pickDrawer();
        int d = pick(7);
        int p = pick(m.people.isEmpty() ? 1 : m.people.size());
        int k = pick(5);
        int w = pick(2);
        boolean is = random.nextBoolean();
        switch (random.nextInt(23)) {
            case 0: {
                int code = random.nextInt(3) == 0 ? random.nextInt(140) - 4 : "yzabcd0123".charAt(random.nextInt(10));
                CHECKS.due("letter(" + code + ")", x.letter(code), m.letter(code));
                break;
            }
            case 1: if (random.nextInt(8) == 0) CHECKS.due("blank()", x.blank(), m.blank()); break;
            case 2: CHECKS.due("fault()", x.fault(), m.fault()); break;
            case 3: CHECKS.due("chest()", x.chest(), m.chest()); break;
            case 4: {
                int f = pick(4);
                CHECKS.due("face(" + f + ")", x.face(f), m.face(f));
                break;
            }
            case 5: {
                int what = pick(7);
                CHECKS.due("drawer(" + a + "," + what + ")", x.drawer(a, what), m.drawer(a, what));
                break;
            }
            case 6:
            case 7: CHECKS.due("person(" + k + "," + a + "," + d + ")", x.person(k, a, d), m.person(k, a, d)); break;
            case 8: {
                int what = pick(28);
                CHECKS.due("about(" + p + "," + what + ")", x.about(p, what), m.about(p, what));
                break;
            }
            case 9: CHECKS.due("as(" + p + "," + k + ")", x.as(p, k), m.as(p, k)); break;
            case 10: CHECKS.due("move(" + p + "," + a + ")", x.move(p, a), m.move(p, a)); break;
            case 11: CHECKS.due("lay(" + a + "," + d + "," + is + ")", x.lay(a, d, is), m.lay(a, d, is)); break;
            case 12: {
                int week = pick(128);
                int least = m.drawer(a, 6);
                if (least >= 0 && random.nextBoolean()) week = least;
                CHECKS.due("agrees(" + a + "," + week + ")", x.agrees(a, week), m.agrees(a, week));
                break;
            }
            case 13: CHECKS.due("sure(" + a + "," + d + ")", x.sure(a, d), m.sure(a, d)); break;
            case 14: {
                int days = random.nextInt(3) == 0 ? pick(128) : 1 << random.nextInt(7) | 1 << random.nextInt(7);
                CHECKS.due("few(" + a + "," + days + "," + w + ")", x.few(a, days, w), m.few(a, days, w));
                break;
            }
            case 15: CHECKS.due("found(" + a + "," + d + "," + is + ")", x.found(a, d, is), m.found(a, d, is)); break;
            case 16: if (random.nextInt(3) == 0) CHECKS.due("forget()", x.forget(), m.forget()); break;
            case 17: CHECKS.due("delays(" + a + ")", x.delays(a), m.delays(a)); break;
            case 18: CHECKS.due("who(" + p + "," + w + ")", x.who(p, w), m.who(p, w)); break;
            case 19: {
                int times = random.nextInt(20) == 0 ? pick(14) : 1 + random.nextInt(2);
                int seed = random.nextInt(10) == 0 ? pick(3) : random.nextInt(Integer.MAX_VALUE);
                CHECKS.due("weeks(" + times + "," + seed + "," + w + ")", x.weeks(times, seed, w), m.weeks(times, seed, w));
                break;
            }
            case 20: if (random.nextInt(2) == 0) CHECKS.due("image()", x.image(), m.image()); break;
            case 21: if (random.nextInt(2) == 0) CHECKS.due("restore()", x.restore(), m.restore()); break;
            default: {
                int what = pick(8);
                CHECKS.due("count(" + what + ")", x.count(what), m.count(what));
            }
        }
    }

    private void run() {
        for (int i = 0; i < 400; i++) {
            if (i == 3 || random.nextInt(chestEvery) == 0) {
                readChest();
                i += 12;
            } else {
                call();
            }
            if (random.nextInt(60) == 0) CHECKS.due("digest()", x.digest(), m.digest());
        }
        CHECKS.due("digest()", x.digest(), m.digest());
    }

    public static void main(String[] args) {
        for (int run = 0; run < RUNS && CHECKS.wrong() < 20; run++) {
            CHECKS.part("run " + run);
            new ModelTest(run).run();
        }
        CHECKS.end();
    }
}
