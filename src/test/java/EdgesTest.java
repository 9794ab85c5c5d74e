/**
 * For each sentence of the document that names a boundary, what is due on it: the least and the most of
 * each number, nothing there yet, full, letters and numbers that go round. What lies beyond the boundary
 * is refused: RefusalsTest.
 */
public final class EdgesTest {
    private static final int NONE = -1, UNKNOWN = -101, OUTSIDE = -102, STATE = -103, FULL = -104;
    private static final int LEAVER = 0, RETURNER = 1, SENDER = 2, WEEKLY = 3, DENIER = 4;
    private static final int MOST = Integer.MAX_VALUE;
    private static final String PLAIN = "aaaaaaaaa0";
    private static final String DELAYS = "yzabcd";
    private static final Checks C = new Checks("EdgesTest");

    private static NineDrawers chestOf(String text) {
        return Checks.chestOf(text);
    }

    /** A CHEST whose DRAWER 0 is so many DAYS AHEAD, -3 to 4: DELAY alone tells -2 to 3 only. */
    private static NineDrawers chestAhead(int ahead) {
        if (ahead == -3) {
            return chestOf("daaaaaaaa2");
        }
        if (ahead == 4) {
            return chestOf("daaaaaaaa1");
        }
        return chestOf(DELAYS.charAt(ahead + 2) + "aaaaaaaa0");
    }

    private static void readAnother(NineDrawers x, String text) {
        x.blank();
        Checks.write(x, text);
        x.chest();
    }

    private static void layAll(NineDrawers x, int drawer, int days) {
        for (int day = 0; day < 7; day++) {
            x.lay(drawer, day, (days >> day & 1) == 1);
        }
    }

    /** What drawer() tells of WEEKS: AGREEING, CANNOT, LEAST. */
    private static void weeksDue(NineDrawers x, String of, int drawer, int agreeing, int cannot, int least) {
        C.due(of + ": drawer(" + drawer + ", 4)", x.drawer(drawer, 4), agreeing);
        C.due(of + ": drawer(" + drawer + ", 5)", x.drawer(drawer, 5), cannot);
        C.due(of + ": drawer(" + drawer + ", 6)", x.drawer(drawer, 6), least);
    }

    // ---- Terms 1: a text, letters that go round, DAYS that are lost

    private static void eachLetterInEachPlace() {
        C.part("Terms 1, promises 4, 5 and 7: each DELAY for each DRAWER");
        int[] byDelay = {-2, -1, 0, 1, 2, 3};
        for (int drawer = 0; drawer < 9; drawer++) {
            for (int i = 0; i < 6; i++) {
                char letter = DELAYS.charAt(i);
                String text = PLAIN.substring(0, drawer) + letter + PLAIN.substring(drawer + 1);
                NineDrawers x = new NineDrawers();
                Checks.write(x, text);
                C.due("fault() of " + text, x.fault(), 10);
                C.due("chest() of " + text, x.chest(), letter == 'a' ? 0 : 1);
                for (int d = 0; d < 9; d++) {
                    C.due(text + ": drawer(" + d + ", 0)", x.drawer(d, 0), 10 + (d == drawer ? byDelay[i] : 0));
                }
            }
        }
    }

    private static void aheadByFacing() {
        C.part("Terms 1, promises 6 and 7: AHEAD by each FACING, and 10 more");
        int[][] ahead = {{8, 9, 10, 11, 12, 13}, {9, 10, 11, 12, 13, 14}, {12, 11, 10, 9, 8, 7}, {10, 10, 10, 10, 10, 10}};
        for (int from = 0; from <= 3; from++) {
            for (int to = 0; to <= 3; to++) {
                NineDrawers x = chestOf("yzabcdaaa" + from);
                aheadDue(x, "FACING " + from + " as read", ahead[from]);
                x.face(to);
                aheadDue(x, "FACING " + from + " moved to " + to, ahead[to]);
                x.face(to);
                aheadDue(x, "moved to " + to + " again", ahead[to]);
                x.face(from);
                aheadDue(x, "moved back to " + from, ahead[from]);
            }
        }
    }

    private static void aheadDue(NineDrawers x, String of, int[] ahead) {
        for (int drawer = 0; drawer < 6; drawer++) {
            C.due(of + ": drawer(" + drawer + ", 0)", x.drawer(drawer, 0), 8 + drawer);
            C.due(of + ": drawer(" + drawer + ", 1)", x.drawer(drawer, 1), ahead[drawer]);
        }
    }

    private static void lostDays() {
        C.part("Terms 1, promise 7: what would be there on other DAYS than 0 to 6 is lost");
        for (int ahead = -3; ahead <= 4; ahead++) {
            for (int day = 0; day < 7; day++) {
                NineDrawers x = chestAhead(ahead);
                x.lay(0, day, true);
                int on = day + ahead;
                int week = on >= 0 && on <= 6 ? 1 << on : 0;
                weeksDue(x, ahead + " AHEAD, LAID on " + day, 0, 1, NONE, week);
                C.due(ahead + " AHEAD, LAID on " + day + ": agrees(0, " + week + ")", x.agrees(0, week), 1);
            }
        }
    }

    private static void daysOfNoWeek() {
        C.part("Terms 1, promise 7: DAYS for which that DAY would be none of the week");
        int[] leastOfSender = {14, 25, 42, NONE, 42, 76, 56, 112};
        int[] allLaid = {15, 31, 63, 127, 126, 124, 120, 112};
        for (int ahead = -3; ahead <= 4; ahead++) {
            NineDrawers x = chestAhead(ahead);
            String of = ahead + " AHEAD";
            weeksDue(x, of + ", nothing", 0, 1, NONE, 0);
            x.person(RETURNER, 0, 0);
            weeksDue(x, of + ", RETURNER", 0, ahead == 0 ? 128 : 1, NONE, 0);
            x.person(SENDER, 0, 0);
            weeksDue(x, of + ", both", 0, 1, NONE, allLaid[ahead + 3]);
            x.move(0, 1);
            boolean is = ahead != 0;
            weeksDue(x, of + ", SENDER", 0, is ? 1 : 0, is ? NONE : 0, leastOfSender[ahead + 3]);
            x.move(1, 1);
            layAll(x, 0, 127);
            weeksDue(x, of + ", all LAID", 0, 1, NONE, allLaid[ahead + 3]);
            for (int day = 0; day < 7; day++) {
                C.due(of + ", all LAID: sure(0, " + day + ")", x.sure(0, day), allLaid[ahead + 3] >> day & 1);
            }
        }
    }

    // ---- promise 1

    private static void newObject() {
        C.part("promise 1: no CHEST, nothing there yet");
        NineDrawers x = new NineDrawers();
        for (int what = 0; what <= 7; what++) {
            C.due("count(" + what + ")", x.count(what), 0);
        }
        C.due("blank()", x.blank(), 0);
        C.due("fault()", x.fault(), 0);
        C.due("forget()", x.forget(), 0);
        C.due("digest()", x.digest(), 853L * 31 * 31 * 31 * 31 * 31 * 31 * 31 * 31);
        C.due("letter(97)", x.letter('a'), 1);
    }

    private static void lastCall() {
        C.part("what it is: used for at most 512 calls, the 512th one, too");
        NineDrawers x = new NineDrawers();
        Checks.write(x, "baaaaaaaz3");
        x.chest();
        x.person(SENDER, 0, 0);
        for (int call = 13; call < 512; call++) {
            C.due("face() as call " + call, x.face(call % 4), call == 13 ? 3 : (call - 1) % 4);
        }
        C.due("drawer(0, 1) as call 512", x.drawer(0, 1), 10);
        NineDrawers y = new NineDrawers();
        for (int call = 1; call < 512; call++) {
            C.due("restore() as call " + call, y.restore(), STATE);
        }
        C.due("letter(97) as call 512", y.letter('a'), 1);
    }

    // ---- promises 2 to 5

    private static void codes() {
        C.part("promise 2: code (32 to 126)");
        for (int code = 0; code <= 300; code++) {
            NineDrawers x = new NineDrawers();
            boolean is = code >= 32 && code <= 126;
            C.due("letter(" + code + ")", x.letter(code), is ? 1 : OUTSIDE);
            C.due("count(5) after letter(" + code + ")", x.count(5), is ? 1 : 0);
        }
        C.part("promise 2: FULL above 12");
        NineDrawers x = new NineDrawers();
        for (int n = 1; n <= 12; n++) {
            C.due("letter() " + n, x.letter(n % 2 == 0 ? 32 : 126), n);
        }
        C.due("letter() 13", x.letter('a'), FULL);
        C.due("letter(31) 13", x.letter(31), OUTSIDE);
        C.due("letter(127) 13", x.letter(127), OUTSIDE);
        C.due("letter() 14", x.letter('b'), FULL);
        C.due("count(5)", x.count(5), 12);
        C.due("blank()", x.blank(), 12);
        C.due("letter() when there is room again", x.letter('a'), 1);
    }

    private static void blanks() {
        C.part("promise 3: of an empty PAGE to a full one");
        for (int n = 0; n <= 12; n++) {
            NineDrawers x = chestOf("baaaaaaaa0");
            for (int i = 0; i < n; i++) {
                x.letter('d');
            }
            C.due("blank() of " + n, x.blank(), n);
            C.due("count(5) then", x.count(5), 0);
            C.due("fault() then", x.fault(), 0);
            C.due("blank() again", x.blank(), 0);
            C.due("drawer(0, 0): THE CHEST stays", x.drawer(0, 0), 11);
            C.due("letter() then", x.letter('a'), 1);
        }
    }

    private static boolean has(int place, int code) {
        return place < 9 && code > 0 && DELAYS.indexOf(code) >= 0 || place == 9 && code >= '0' && code <= '3';
    }

    private static void faults() {
        C.part("promise 4: each letter in each place of THE PAGE");
        String fitting = "dcbazydcb312";
        for (int place = 0; place < 12; place++) {
            for (int code = 32; code <= 126; code++) {
                NineDrawers x = new NineDrawers();
                Checks.write(x, fitting.substring(0, place));
                x.letter(code);
                int want = place > 10 ? 10 : has(place, code) ? place + 1 : place;
                C.due("fault() with " + code + " in " + place, x.fault(), want);
            }
        }
        C.part("promise 4: the first of several, behind those ahead of it");
        for (int first = 0; first <= 10; first++) {
            for (int next = first + 1; next < 12; next++) {
                NineDrawers x = new NineDrawers();
                StringBuilder text = new StringBuilder(fitting);
                text.setCharAt(first, 'x');
                text.setCharAt(next, 'x');
                Checks.write(x, text.toString());
                C.due("fault() of " + text, x.fault(), first);
            }
        }
        C.part("promise 4: none, how many letters it has");
        for (int n = 0; n <= 10; n++) {
            NineDrawers x = new NineDrawers();
            Checks.write(x, fitting.substring(0, n));
            C.due("fault() of " + n + " letters", x.fault(), n);
            C.due("fault() again", x.fault(), n);
        }
    }

    private static void pagesThatAreNone() {
        C.part("promise 5: STATE, it is none");
        for (int n = 0; n <= 12; n++) {
            NineDrawers x = new NineDrawers();
            Checks.write(x, "yzabcdyza333".substring(0, n));
            C.due("chest() of " + n + " letters", x.chest(), n == 10 ? 7 : STATE);
            C.due("count(5) then", x.count(5), n == 10 ? 0 : n);
            C.due("count(6) then", x.count(6), n == 10 ? 1 : 0);
            C.due("drawer(0, 0) then", x.drawer(0, 0), n == 10 ? 8 : UNKNOWN);
        }
        for (int place = 0; place < 10; place++) {
            for (char unfit : new char[] {'x', 'e', '`', '{', '4', '/', 'A', ' ', place < 9 ? '0' : 'a'}) {
                NineDrawers x = chestOf("daaaaaaaa3");
                Checks.write(x, PLAIN.substring(0, place) + unfit + PLAIN.substring(place + 1));
                C.due("chest() with " + unfit + " in " + place, x.chest(), STATE);
                C.due("count(5): THE PAGE stays", x.count(5), 10);
                C.due("fault(): THE PAGE stays", x.fault(), place);
                C.due("drawer(0, 0): THE CHEST stays", x.drawer(0, 0), 13);
                C.due("count(6)", x.count(6), 1);
            }
        }
    }

    private static void howManyHaveADelay() {
        C.part("promise 5: how many DRAWERS have a DELAY that is not 0, none to nine");
        String text = "yzbcdyzbc";
        for (int n = 0; n <= 9; n++) {
            NineDrawers x = new NineDrawers();
            Checks.write(x, text.substring(0, n) + PLAIN.substring(n));
            C.due("chest() with " + n, x.chest(), n);
            C.due("count(5): THE PAGE is empty then", x.count(5), 0);
            C.due("chest() again", x.chest(), STATE);
        }
    }

    private static void anotherChest() {
        C.part("promise 5: another one is gone, with PEOPLE, what is LAID, FOUND");
        NineDrawers x = chestOf("ddddddddd1");
        for (int n = 0; n < 6; n++) {
            x.person(SENDER, n, 6);
        }
        for (int drawer = 0; drawer < 9; drawer++) {
            x.lay(drawer, drawer % 7, true);
        }
        for (int n = 1; n <= 8; n++) {
            x.found(n, 6, n % 2 == 0);
        }
        readAnother(x, "zzzzzzzzz2");
        C.due("count(1)", x.count(1), 2);
        C.due("count(2)", x.count(2), 0);
        C.due("count(3)", x.count(3), 0);
        C.due("count(4)", x.count(4), 0);
        C.due("count(6)", x.count(6), 2);
        C.due("forget()", x.forget(), 0);
        for (int drawer = 0; drawer < 9; drawer++) {
            C.due("drawer(" + drawer + ", 0)", x.drawer(drawer, 0), 9);
            C.due("drawer(" + drawer + ", 1)", x.drawer(drawer, 1), 11);
            C.due("drawer(" + drawer + ", 2)", x.drawer(drawer, 2), 0);
            C.due("drawer(" + drawer + ", 3)", x.drawer(drawer, 3), 0);
            C.due("delays(" + drawer + ")", x.delays(drawer), 255);
        }
        for (int n = 0; n < 6; n++) {
            C.due("about(" + n + ", 0)", x.about(n, 0), UNKNOWN);
        }
        for (int n = 0; n < 6; n++) {
            C.due("person(), room for six again", x.person(LEAVER, 8, 0), n);
        }
        for (int n = 1; n <= 8; n++) {
            C.due("found(), room for eight again", x.found(0, 0, false), n);
        }
        C.due("person(), a seventh", x.person(LEAVER, 8, 0), FULL);
        C.due("found(), a ninth", x.found(0, 0, false), FULL);
        C.due("restore(): none was kept", x.restore(), STATE);
    }

    // ---- promises 6 and 7

    private static void faces() {
        C.part("promise 6: from each FACING to each");
        for (int from = 0; from <= 3; from++) {
            for (int to = 0; to <= 3; to++) {
                NineDrawers x = chestOf("aaaaaaaaa" + from);
                C.due("face(" + to + ") from " + from, x.face(to), from);
                C.due("count(1)", x.count(1), to);
                C.due("face(-1)", x.face(-1), OUTSIDE);
                C.due("face(4)", x.face(4), OUTSIDE);
                C.due("count(1) then", x.count(1), to);
            }
        }
        C.part("promise 6: no CHEST");
        NineDrawers x = new NineDrawers();
        C.due("face(0)", x.face(0), STATE);
        C.due("face(3)", x.face(3), STATE);
        C.due("face(-1): OUTSIDE is told first", x.face(-1), OUTSIDE);
        C.due("face(4): OUTSIDE is told first", x.face(4), OUTSIDE);
    }

    private static void bitsOfDrawers() {
        C.part("promise 7: PEOPLE and what is LAID, as bits, none to all");
        NineDrawers x = chestOf(PLAIN);
        for (int drawer = 0; drawer < 9; drawer += 8) {
            C.due("drawer(" + drawer + ", 2), none", x.drawer(drawer, 2), 0);
            C.due("drawer(" + drawer + ", 3), none", x.drawer(drawer, 3), 0);
        }
        for (int n = 0; n < 6; n++) {
            x.person(LEAVER, 8, n);
            C.due("drawer(8, 2), " + (n + 1), x.drawer(8, 2), (2 << n) - 1);
        }
        for (int day = 0; day < 7; day++) {
            x.lay(8, day, true);
            C.due("drawer(8, 3), to " + day, x.drawer(8, 3), (2 << day) - 1);
        }
        C.due("drawer(0, 2)", x.drawer(0, 2), 0);
        C.due("drawer(0, 3)", x.drawer(0, 3), 0);
        for (int n = 0; n < 6; n++) {
            x.move(n, 0);
        }
        C.due("drawer(0, 2), all", x.drawer(0, 2), 63);
        C.due("drawer(8, 2), none any more", x.drawer(8, 2), 0);
    }

    private static void agreeing() {
        C.part("promise 7: AGREEING, none to all 128, LEAST 0 to 127");
        for (int drawer = 0; drawer < 9; drawer += 8) {
            NineDrawers x = chestOf(PLAIN);
            x.person(RETURNER, drawer, 0);
            weeksDue(x, "RETURNER", drawer, 128, NONE, 0);
            for (int day = 0; day < 7; day++) {
                x.lay(drawer, day, true);
                weeksDue(x, "LAID to " + day, drawer, 128 >> day + 1, NONE, (2 << day) - 1);
            }
            x.lay(drawer, 0, false);
            weeksDue(x, "all but DAY 0", drawer, 2, NONE, 126);
            x.move(0, 4);
            weeksDue(x, "all but DAY 0, nobody", drawer, 1, NONE, 126);
            layAll(x, drawer, 0);
            weeksDue(x, "nothing, nobody", drawer, 1, NONE, 0);
            x.person(SENDER, drawer, 0);
            weeksDue(x, "SENDER", drawer, 0, 0, NONE);
            layAll(x, drawer, 127);
            weeksDue(x, "SENDER, all LAID", drawer, 1, NONE, 127);
        }
    }

    private static void cannot() {
        C.part("promise 7: CANNOT, the first DAY, 0 to 6");
        for (int day = 0; day < 7; day++) {
            NineDrawers x = chestOf(PLAIN);
            x.person(SENDER, 8, 0);
            layAll(x, 8, (1 << day) - 1);
            weeksDue(x, "LAID on DAYS before " + day, 8, 0, day, NONE);
            layAll(x, 8, 127 & ~(1 << day));
            weeksDue(x, "LAID on all but " + day, 8, 0, day, NONE);
            x.lay(8, day, true);
            weeksDue(x, "LAID on all", 8, 1, NONE, 127);
        }
        for (int own = 0; own < 7; own++) {
            NineDrawers x = chestOf(PLAIN);
            x.person(DENIER, 8, own);
            weeksDue(x, "DENIER, own DAY " + own, 8, 0, own == 0 ? 1 : 0, NONE);
            layAll(x, 8, 127 & ~(1 << own));
            weeksDue(x, "DENIER, LAID on all but his " + own, 8, 1, NONE, 127 & ~(1 << own));
        }
    }

    // ---- promises 8 to 12

    private static void persons() {
        C.part("promise 8: numbers 0 to 5, then FULL");
        NineDrawers x = chestOf(PLAIN);
        C.due("about(0, 0), nobody yet", x.about(0, 0), UNKNOWN);
        for (int n = 0; n < 6; n++) {
            C.due("person() " + n, x.person(n % 5, n * 8 / 5, 6 - n), n);
            C.due("count(2)", x.count(2), n + 1);
            C.due("about(" + (n + 1) + ", 0), not yet", x.about(n + 1, 0), UNKNOWN);
        }
        C.due("person(), a seventh", x.person(LEAVER, 0, 0), FULL);
        C.due("person(), a seventh of no KIND", x.person(5, 0, 0), OUTSIDE);
        C.due("person(), a seventh of no KIND", x.person(-1, 0, 0), OUTSIDE);
        C.due("person(), a seventh of no DRAWER", x.person(0, 9, 0), UNKNOWN);
        C.due("person(), a seventh of no DAY", x.person(0, 0, 7), UNKNOWN);
        C.due("count(2)", x.count(2), 6);
        for (int n = 0; n < 6; n++) {
            C.due("about(" + n + ", 0)", x.about(n, 0), n % 5);
            C.due("about(" + n + ", 1)", x.about(n, 1), n * 8 / 5);
            C.due("about(" + n + ", 2)", x.about(n, 2), 6 - n);
        }
        C.part("promise 8: the least and the most KIND, DRAWER, DAY");
        for (int kind = 0; kind <= 4; kind += 4) {
            for (int drawer = 0; drawer <= 8; drawer += 8) {
                for (int day = 0; day <= 6; day += 6) {
                    NineDrawers y = chestOf(PLAIN);
                    C.due("person(" + kind + ", " + drawer + ", " + day + ")", y.person(kind, drawer, day), 0);
                    C.due("about(0, 0)", y.about(0, 0), kind);
                    C.due("about(0, 1)", y.about(0, 1), drawer);
                    C.due("about(0, 2)", y.about(0, 2), day);
                }
            }
        }
    }

    /** Whether one PUTS something on a DAY if there is nothing, then if there is: KIND by KIND, as told. */
    private static int putsDue(int kind, int own, int day, boolean is) {
        int[] asSender = {1, 0};
        int at = is ? 1 : 0;
        switch (kind) {
            case LEAVER: return 0;
            case RETURNER: return at;
            case SENDER: return asSender[at];
            case WEEKLY: return day == own ? 1 : 0;
            default: return day == own ? 0 : asSender[at];
        }
    }

    private static void abouts() {
        for (int kind = 0; kind < 5; kind++) {
            for (int own = 0; own < 7; own++) {
                C.part("promise 9: KIND " + kind + ", own DAY " + own);
                NineDrawers x = chestOf(PLAIN);
                x.person(kind, 8, own);
                int[] first = {kind, 8, own};
                for (int what = -3; what <= 40; what++) {
                    int want = OUTSIDE;
                    if (what >= 0 && what <= 2) {
                        want = first[what];
                    } else if (what >= 10 && what <= 16) {
                        want = putsDue(kind, own, what - 10, false);
                    } else if (what >= 20 && what <= 26) {
                        want = putsDue(kind, own, what - 20, true);
                    }
                    C.due("about(0, " + what + ")", x.about(0, what), want);
                }
                C.due("about(1, 0)", x.about(1, 0), UNKNOWN);
            }
        }
    }

    private static void casts() {
        C.part("promise 10: all are LEAVERS, a DENIER is a SENDER, too; the cast fails");
        String[] is = {"10000", "11000", "10100", "10010", "10101"};
        for (int number = 0; number < 6; number += 5) {
            for (int of = 0; of < 5; of++) {
                NineDrawers x = chestOf(PLAIN);
                for (int n = 0; n < number; n++) {
                    x.person(of == 0 ? DENIER : LEAVER, 0, 0);
                }
                x.person(of, 8, 6);
                for (int kind = 0; kind < 5; kind++) {
                    int want = is[of].charAt(kind) == '1' ? number : NONE;
                    C.due("as(" + number + ", " + kind + ") of a " + of, x.as(number, kind), want);
                }
                C.due("as(" + number + ", -1)", x.as(number, -1), OUTSIDE);
                C.due("as(" + number + ", 5)", x.as(number, 5), OUTSIDE);
                C.due("as(" + (number + 1) + ", 0)", x.as(number + 1, 0), UNKNOWN);
                C.due("about(" + number + ", 0): he stays what he is", x.about(number, 0), of);
            }
        }
    }

    private static void moves() {
        C.part("promise 11: the least and the most DRAWER, of the first and the last PERSON");
        NineDrawers x = chestOf("baaaaaaab0");
        for (int n = 0; n < 6; n++) {
            x.person(n == 0 || n == 5 ? SENDER : LEAVER, 4, n);
        }
        C.due("drawer(0, 6), nobody", x.drawer(0, 6), 0);
        C.due("move(0, 0)", x.move(0, 0), 4);
        C.due("drawer(0, 6) from now on", x.drawer(0, 6), 42);
        C.due("move(0, 8)", x.move(0, 8), 0);
        C.due("drawer(0, 6), nobody any more", x.drawer(0, 6), 0);
        C.due("drawer(8, 6)", x.drawer(8, 6), 42);
        C.due("move(0, 8), where he is", x.move(0, 8), 8);
        C.due("move(5, 0)", x.move(5, 0), 4);
        C.due("drawer(0, 6), the last", x.drawer(0, 6), 42);
        C.due("move(5, 8)", x.move(5, 8), 0);
        C.due("drawer(8, 2)", x.drawer(8, 2), 33);
        C.due("about(5, 2): his own DAY stays", x.about(5, 2), 5);
        C.due("move(6, 0)", x.move(6, 0), UNKNOWN);
        C.due("move(-1, 0)", x.move(-1, 0), UNKNOWN);
        C.due("move(0, 9)", x.move(0, 9), UNKNOWN);
        C.due("move(0, -1)", x.move(0, -1), UNKNOWN);
        C.due("about(0, 1): refused, he stays", x.about(0, 1), 8);
    }

    private static void lays() {
        C.part("promise 12: each DAY of each DRAWER, none to 63 things");
        NineDrawers x = chestOf(PLAIN);
        for (int drawer = 0; drawer < 9; drawer++) {
            for (int day = 0; day < 7; day++) {
                C.due("lay(" + drawer + ", " + day + ", true)", x.lay(drawer, day, true), 0);
                C.due("count(3)", x.count(3), drawer * 7 + day + 1);
            }
            C.due("drawer(" + drawer + ", 3)", x.drawer(drawer, 3), 127);
        }
        for (int drawer = 0; drawer < 9; drawer += 8) {
            for (int day = 0; day < 7; day += 6) {
                C.due("lay(" + drawer + ", " + day + ", true), it is", x.lay(drawer, day, true), 1);
                C.due("count(3) is the same", x.count(3), 63);
                C.due("lay(" + drawer + ", " + day + ", false)", x.lay(drawer, day, false), 1);
                C.due("drawer(" + drawer + ", 3) without " + day, x.drawer(drawer, 3), 127 & ~(1 << day));
                C.due("lay(" + drawer + ", " + day + ", false), it is not", x.lay(drawer, day, false), 0);
                C.due("count(3) without one", x.count(3), 62);
                C.due("lay(" + drawer + ", " + day + ", true), not any more", x.lay(drawer, day, true), 0);
            }
        }
    }

    // ---- promises 13 to 15

    private static void agrees() {
        C.part("promise 13: the least and the most week, 0 and 127");
        for (int drawer = 0; drawer < 9; drawer += 8) {
            NineDrawers x = chestOf(PLAIN);
            agreesDue(x, "nobody", drawer, 1, 0);
            x.person(RETURNER, drawer, 0);
            agreesDue(x, "RETURNER", drawer, 1, 1);
            x.person(SENDER, drawer, 0);
            agreesDue(x, "RETURNER and SENDER", drawer, 0, 1);
            x.move(0, 4);
            agreesDue(x, "SENDER", drawer, 0, 0);
            layAll(x, drawer, 127);
            agreesDue(x, "all LAID", drawer, 0, 1);
        }
    }

    private static void agreesDue(NineDrawers x, String of, int drawer, int none, int all) {
        C.due(of + ": agrees(" + drawer + ", 0)", x.agrees(drawer, 0), none);
        C.due(of + ": agrees(" + drawer + ", 127)", x.agrees(drawer, 127), all);
        C.due(of + ": agrees(" + drawer + ", -1)", x.agrees(drawer, -1), OUTSIDE);
        C.due(of + ": agrees(" + drawer + ", 128)", x.agrees(drawer, 128), OUTSIDE);
    }

    private static void sures() {
        C.part("promise 14: 1, 0, NONE, on each DAY");
        for (int drawer = 0; drawer < 9; drawer += 8) {
            for (int on = 0; on < 7; on++) {
                NineDrawers x = chestOf(PLAIN);
                x.lay(drawer, on, true);
                for (int day = 0; day < 7; day++) {
                    C.due("LAID on " + on + ": sure(" + drawer + ", " + day + ")", x.sure(drawer, day), day == on ? 1 : 0);
                }
                x.person(RETURNER, drawer, 0);
                for (int day = 0; day < 7; day++) {
                    C.due("RETURNER, LAID on " + on + ": sure(" + drawer + ", " + day + ")",
                        x.sure(drawer, day), day == on ? 1 : NONE);
                }
                x.person(DENIER, drawer, on);
                x.move(0, 4);
                x.lay(drawer, on, false);
                for (int day = 0; day < 7; day++) {
                    C.due("none AGREES: sure(" + drawer + ", " + day + ")", x.sure(drawer, day), NONE);
                }
            }
        }
    }

    private static void fewDue(NineDrawers x, String of, int days, int few, int on) {
        C.due(of + ": few(0, " + days + ", 0)", x.few(0, days, 0), few);
        C.due(of + ": few(0, " + days + ", 1)", x.few(0, days, 1), on);
    }

    private static void fewestOfDays() {
        C.part("promise 15: days 0 to 127, no thing to seven, none");
        int[] reached = {15, 31, 63, 127, 126, 124, 120, 112};
        for (int ahead = -3; ahead <= 4; ahead++) {
            NineDrawers x = chestAhead(ahead);
            layAll(x, 0, 127);
            String of = ahead + " AHEAD, LAID now on all";
            int most = reached[ahead + 3];
            fewDue(x, of, 0, 0, 0);
            fewDue(x, of, most, Integer.bitCount(most), ahead >= 0 ? most >> ahead : most << -ahead);
            fewDue(x, of, 127, ahead == 0 ? 7 : NONE, ahead == 0 ? 127 : NONE);
            for (int day = 0; day < 7; day++) {
                boolean is = (most >> day & 1) == 1;
                fewDue(x, of, 1 << day, is ? 1 : NONE, is ? 1 << day - ahead : NONE);
            }
            C.due("drawer(0, 3): it is LAID as it was", x.drawer(0, 3), 127);
            C.due("count(7): those that answered NONE were done, too", x.count(7), 20);
        }
    }

    private static void fewOfPeople() {
        C.part("promise 15: of like ones the least");
        NineDrawers x = chestAhead(1);
        x.person(RETURNER, 0, 0);
        for (int day = 1; day < 7; day++) {
            fewDue(x, "1 AHEAD, RETURNER", 1 << day, 1, 1);
        }
        NineDrawers y = chestAhead(-1);
        y.person(RETURNER, 0, 0);
        for (int day = 0; day < 6; day++) {
            fewDue(y, "1 back, RETURNER", 1 << day, 1, 2 << day);
        }
        C.part("promise 15: some WEEK AGREES");
        for (int own = 0; own < 7; own++) {
            NineDrawers z = chestAhead(0);
            z.person(DENIER, 0, own);
            fewDue(z, "DENIER, own DAY " + own, 0, 6, 127 & ~(1 << own));
            fewDue(z, "DENIER, own DAY " + own, 1 << own, 7, 127);
        }
        C.part("promise 15: by all that do there is something");
        NineDrawers z = chestAhead(0);
        z.person(RETURNER, 0, 0);
        fewDue(z, "RETURNER", 64, 1, 64);
        fewDue(z, "RETURNER", 127, 7, 127);
        z.person(SENDER, 0, 0);
        fewDue(z, "RETURNER and SENDER", 127, 0, 0);
    }

    private static void fortyTimes() {
        C.part("promise 15: few() was done 40 times");
        NineDrawers x = chestAhead(0);
        x.image();
        for (int n = 1; n <= 40; n++) {
            C.due("few(9, 0, 0), refused", x.few(9, 0, 0), UNKNOWN);
            C.due("few(0, 128, 0), refused", x.few(0, 128, 0), OUTSIDE);
            C.due("few(8, " + n + ", 0), " + n, x.few(8, n, 0), Integer.bitCount(n));
            C.due("count(7)", x.count(7), n);
        }
        C.due("few(8, 0, 0), the 41st", x.few(8, 0, 0), STATE);
        C.due("few(8, 0, 1), the 42nd", x.few(8, 0, 1), STATE);
        C.due("few(9, 0, 0): UNKNOWN is told first", x.few(9, 0, 0), UNKNOWN);
        C.due("few(-1, 128, 2): UNKNOWN is told first", x.few(-1, 128, 2), UNKNOWN);
        C.due("few(0, 128, 0): OUTSIDE is told before STATE", x.few(0, 128, 0), OUTSIDE);
        C.due("few(0, -1, 0): OUTSIDE is told before STATE", x.few(0, -1, 0), OUTSIDE);
        C.due("few(0, 0, 2): OUTSIDE is told before STATE", x.few(0, 0, 2), OUTSIDE);
        C.due("few(0, 0, -1): OUTSIDE is told before STATE", x.few(0, 0, -1), OUTSIDE);
        C.due("count(7)", x.count(7), 40);
        x.restore();
        C.due("few(8, 0, 0) after restore()", x.few(8, 0, 0), STATE);
        readAnother(x, PLAIN);
        C.due("few(8, 0, 0) of another CHEST", x.few(8, 0, 0), STATE);
        C.due("count(7) of another CHEST", x.count(7), 40);
    }

    // ---- promises 16 to 20

    private static void foundAndForget() {
        C.part("promises 16 and 17: nothing FOUND to eight, then FULL");
        for (int n = 0; n <= 8; n++) {
            NineDrawers x = chestOf(PLAIN);
            C.due("count(4), nothing yet", x.count(4), 0);
            for (int i = 1; i <= n; i++) {
                C.due("found() " + i, x.found(i % 2 * 8, i % 2 * 6, i % 4 < 2), i);
                C.due("count(4)", x.count(4), i);
            }
            C.due("found(9, 0, true)", x.found(9, 0, true), UNKNOWN);
            C.due("found(-1, 0, true)", x.found(-1, 0, true), UNKNOWN);
            C.due("found(0, 7, false)", x.found(0, 7, false), UNKNOWN);
            C.due("found(0, -1, false)", x.found(0, -1, false), UNKNOWN);
            C.due("found(4, 4, false), one more", x.found(4, 4, false), n == 8 ? FULL : n + 1);
            C.due("forget()", x.forget(), n == 8 ? 8 : n + 1);
            C.due("count(4), nothing any more", x.count(4), 0);
            C.due("forget(), nothing any more", x.forget(), 0);
            C.due("found(8, 6, true)", x.found(8, 6, true), 1);
        }
        C.part("promise 16: the same one again is one more");
        NineDrawers x = chestOf(PLAIN);
        for (int n = 1; n <= 8; n++) {
            C.due("found(8, 6, true), " + n, x.found(8, 6, true), n);
        }
        C.due("found(8, 6, true), 9", x.found(8, 6, true), FULL);
    }

    private static void foundOnEachDay() {
        C.part("Terms 3, promises 16 and 18: FOUND, or not, on each DAY");
        for (int drawer = 0; drawer < 9; drawer += 8) {
            for (int day = 0; day < 7; day++) {
                NineDrawers x = chestOf(PLAIN);
                x.lay(drawer, 3, true);
                int ahead = day - 3;
                int itself = 1 << ahead + 3;
                x.found(drawer, day, false);
                C.due("not there on " + day + ": delays(" + drawer + ")", x.delays(drawer), 255 & ~itself);
                C.due("not there on " + day + ": delays(4)", x.delays(4), 255);
                x.forget();
                x.found(drawer, day, true);
                C.due("there on " + day + ": delays(" + drawer + ")", x.delays(drawer), itself);
                C.due("there on " + day + ": delays(4)", x.delays(4), 255);
                x.found(drawer, day, false);
                C.due("both on " + day + ": delays(" + drawer + ")", x.delays(drawer), 0);
            }
        }
        C.part("Terms 3, promise 18: all that is FOUND, there and not");
        NineDrawers x = chestOf(PLAIN);
        x.lay(0, 3, true);
        int left = 255;
        for (int day = 0; day < 7; day++) {
            x.found(0, day, false);
            left &= ~(1 << day);
            C.due("not there to " + day + ": delays(0)", x.delays(0), left);
        }
        C.due("delays(0), only 4", x.delays(0), 128);
        x.found(0, 0, true);
        C.due("delays(0), none", x.delays(0), 0);
    }

    private static void delays() {
        C.part("promise 18: -3 (bit 0) to 4 (bit 7), all and none");
        for (int ahead = -3; ahead <= 4; ahead++) {
            NineDrawers x = chestOf("daaaaaaaa1");
            int from = ahead < 0 ? 6 : 0;
            x.lay(0, from, true);
            C.due("nothing FOUND: delays(0)", x.delays(0), 255);
            x.found(0, from + ahead, true);
            C.due("found " + ahead + " AHEAD: delays(0)", x.delays(0), 1 << ahead + 3);
            C.due("drawer(0, 1): AHEAD is as it was", x.drawer(0, 1), 14);
        }
        NineDrawers x = chestOf(PLAIN);
        x.person(SENDER, 8, 0);
        C.due("delays(8), a SENDER cannot be 0 AHEAD", x.delays(8), 255 - 8);
        layAll(x, 8, 127);
        C.due("delays(8), all LAID", x.delays(8), 255);
        x.found(8, 0, true);
        C.due("delays(8), there on DAY 0", x.delays(8), 15);
        x.found(8, 6, true);
        C.due("delays(8), there on DAYS 0 and 6", x.delays(8), 8);
        x.found(8, 6, false);
        C.due("delays(8), none", x.delays(8), 0);
        C.due("delays(0)", x.delays(0), 255);
        C.due("delays(-1)", x.delays(-1), UNKNOWN);
        C.due("delays(9)", x.delays(9), UNKNOWN);
    }

    private static void whoDue(NineDrawers x, String of, int person, int many, int least) {
        C.due(of + ": who(" + person + ", 0)", x.who(person, 0), many);
        C.due(of + ": who(" + person + ", 1)", x.who(person, 1), least);
    }

    /** FOUND of a DRAWER is just this WEEK, and nothing else. */
    private static void findWeek(NineDrawers x, int drawer, int week) {
        x.forget();
        for (int day = 0; day < 7; day++) {
            x.found(drawer, day, (week >> day & 1) == 1);
        }
    }

    private static void whos() {
        for (int person = 0; person < 6; person += 5) {
            C.part("promise 19: all 35 or none, of PERSON " + person);
            NineDrawers x = chestOf("aaaaaaaaa1");
            for (int n = 0; n < person; n++) {
                x.person(SENDER, 0, n);
            }
            x.person(LEAVER, 8, 0);
            whoDue(x, "nothing FOUND", person, 35, 0);
            x.found(0, 0, true);
            whoDue(x, "FOUND of another DRAWER", person, 35, 0);
            x.found(8, 0, true);
            whoDue(x, "what cannot be is FOUND", person, 0, NONE);
            x.forget();
            whoDue(x, "nothing FOUND any more", person, 35, 0);
            C.due("about(" + person + ", 0) is as it was", x.about(person, 0), LEAVER);
            C.due("about(" + person + ", 2) is as it was", x.about(person, 2), 0);
            C.due("who(" + (person + 1) + ", 0)", x.who(person + 1, 0), UNKNOWN);
            C.due("who(-1, 0)", x.who(-1, 0), UNKNOWN);
            C.due("who(" + person + ", -1)", x.who(person, -1), OUTSIDE);
            C.due("who(" + person + ", 2)", x.who(person, 2), OUTSIDE);
        }
    }

    private static void whoAloneCanBe() {
        C.part("promise 19: 7 times KIND, and the DAY, 0 to 34");
        NineDrawers x = chestOf("baaaaaaaz0");
        x.person(LEAVER, 0, 3);
        findWeek(x, 0, 0);
        whoDue(x, "nothing: LEAVER, RETURNER, WEEKLY on 6", 0, 15, 0);
        for (int own = 0; own < 6; own++) {
            findWeek(x, 0, 2 << own);
            whoDue(x, "one thing: WEEKLY on " + own, 0, 1, 21 + own);
        }
        findWeek(x, 0, 42);
        whoDue(x, "1, 3, 5: SENDER, DENIER who denies 1, 3, 5, 6", 0, 11, 14);
        findWeek(x, 0, 84);
        whoDue(x, "2, 4, 6: DENIER who denies 0", 0, 1, 28);
        findWeek(x, 0, 82);
        whoDue(x, "1, 4, 6: DENIER who denies 2", 0, 1, 30);
        findWeek(x, 0, 74);
        whoDue(x, "1, 3, 6: DENIER who denies 4", 0, 1, 32);
        x.move(0, 8);
        findWeek(x, 8, 21);
        whoDue(x, "back, 0, 2, 4: DENIER who denies 6", 0, 1, 34);
        x.lay(8, 6, true);
        findWeek(x, 8, 63);
        whoDue(x, "back, all but 6: RETURNER", 0, 7, 7);
    }

    private static void whoBesideOthers() {
        C.part("promise 19: all else as it is");
        for (int day = 0; day < 7; day++) {
            NineDrawers x = chestOf(PLAIN);
            x.person(LEAVER, 0, 0);
            layAll(x, 0, 127 & ~(1 << day));
            String of = "LAID on all but " + day;
            whoDue(x, of + ": all but SENDERS, of DENIERS one", 0, 22, 0);
            x.found(0, day, true);
            whoDue(x, of + ", there on it: RETURNER, WEEKLY on it", 0, 8, 7);
            x.forget();
            x.person(RETURNER, 0, 0);
            x.found(0, day, false);
            whoDue(x, of + ", not there, beside a RETURNER: not WEEKLY on it", 0, 21, 0);
            x.forget();
            x.person(WEEKLY, 0, day);
            whoDue(x, of + ", beside one WEEKLY on it: all", 0, 35, 0);
            x.found(0, day, false);
            whoDue(x, of + ", beside one WEEKLY on it, not there", 0, 0, NONE);
        }
    }

    private static long nextSeed(long seed) {
        return (1103515245L * seed + 12345L) % 2147483648L;
    }

    private static void timesAndSeeds() {
        C.part("promise 20: times 1 to 12, seed 0 to the most, DRAWS that go round");
        NineDrawers x = chestOf("yzabcdaaa1");
        for (int seed : new int[] {0, 1, 12345, 2147471302, MOST - 1, MOST}) {
            long then = seed;
            for (int times = 1; times <= 12; times++) {
                for (int draw = 0; draw < 63; draw++) {
                    then = nextSeed(then);
                }
                C.due("weeks(" + times + ", " + seed + ", 1)", x.weeks(times, seed, 1), then);
                C.due("weeks(" + times + ", " + seed + ", 0), nobody", x.weeks(times, seed, 0), 0);
            }
            C.due("weeks(0, " + seed + ", 1)", x.weeks(0, seed, 1), OUTSIDE);
            C.due("weeks(13, " + seed + ", 1)", x.weeks(13, seed, 1), OUTSIDE);
        }
        C.due("weeks(1, -1, 0)", x.weeks(1, -1, 0), OUTSIDE);
        C.due("weeks(1, 0, -1)", x.weeks(1, 0, -1), OUTSIDE);
        C.due("weeks(1, 0, 2)", x.weeks(1, 0, 2), OUTSIDE);
        C.part("promise 20: no CHEST");
        NineDrawers y = new NineDrawers();
        C.due("weeks(1, 0, 0)", y.weeks(1, 0, 0), STATE);
        C.due("weeks(12, MOST, 1)", y.weeks(12, MOST, 1), STATE);
        C.due("weeks(0, 0, 0): OUTSIDE is told first", y.weeks(0, 0, 0), OUTSIDE);
        C.due("weeks(13, 0, 0): OUTSIDE is told first", y.weeks(13, 0, 0), OUTSIDE);
        C.due("weeks(1, -1, 0): OUTSIDE is told first", y.weeks(1, -1, 0), OUTSIDE);
        C.due("weeks(1, 0, 2): OUTSIDE is told first", y.weeks(1, 0, 2), OUTSIDE);
    }

    private static void drawnForEachDrawer() {
        C.part("promise 20: DRAWERS by number, each DAY, how many cannot, over all times");
        for (int drawer = 0; drawer < 9; drawer++) {
            // Only DAYS 0 and 6 need a thing LAID: the DENIER denies DAY 3, the WEEKLY ones have the others.
            NineDrawers x = chestOf(PLAIN);
            x.person(DENIER, drawer, 3);
            for (int day : new int[] {1, 2, 4, 5}) {
                x.person(WEEKLY, drawer, day);
            }
            layAll(x, drawer, 127);
            int[] many = new int[13];
            long seed = 853;
            for (int times = 1; times <= 12; times++) {
                many[times] = many[times - 1];
                for (int d = 0; d < 9; d++) {
                    boolean lacks = false;
                    for (int day = 0; day < 7; day++) {
                        seed = nextSeed(seed);
                        lacks |= (day == 0 || day == 6) && seed / 65536 % 4 != 0;
                    }
                    many[times] += d == drawer && lacks ? 1 : 0;
                }
                C.due("weeks(" + times + ", 853, 0), DRAWER " + drawer, x.weeks(times, 853, 0), many[times]);
            }
            C.due("drawer(" + drawer + ", 3): it is LAID as it was", x.drawer(drawer, 3), 127);
        }
        C.part("promise 20: as many as six DRAWERS, twelve times");
        NineDrawers x = chestOf("aaaaaaaaa3");
        for (int n = 0; n < 6; n++) {
            x.person(SENDER, n, 0);
        }
        C.due("weeks(1, 0, 0)", x.weeks(1, 0, 0), 6);
        C.due("weeks(12, 0, 0)", x.weeks(12, 0, 0), 72);
    }

    // ---- promises 21 and 22

    private static void imagesOfPeople() {
        for (int n = 0; n <= 6; n++) {
            C.part("promises 21 and 22: an IMAGE of " + n + " PEOPLE");
            NineDrawers x = chestOf(PLAIN);
            for (int i = 0; i < n; i++) {
                x.person(i % 5, i, i);
            }
            C.due("image()", x.image(), n);
            long kept = x.digest();
            for (int i = n; i < 6; i++) {
                C.due("person(), one that comes since", x.person(SENDER, 8, 6), i);
            }
            for (int i = 0; i < 6; i++) {
                x.move(i, 7);
            }
            C.due("restore()", x.restore(), n);
            C.due("digest()", x.digest(), kept);
            C.due("about(" + n + ", 0): he is gone", x.about(n, 0), UNKNOWN);
            for (int i = 0; i < n; i++) {
                C.due("about(" + i + ", 1)", x.about(i, 1), i);
            }
            for (int i = n; i < 6; i++) {
                C.due("person(), room again", x.person(WEEKLY, 0, 1), i);
                C.due("about(" + i + ", 0)", x.about(i, 0), WEEKLY);
                C.due("about(" + i + ", 2)", x.about(i, 2), 1);
            }
            C.due("person(), a seventh", x.person(WEEKLY, 0, 1), FULL);
            C.due("restore() again", x.restore(), n);
            C.due("digest() again", x.digest(), kept);
        }
    }

    private static void imagesOfAllElse() {
        C.part("promises 21 and 22: FACING, what is LAID, FOUND, of the first and the last DRAWER");
        for (int drawer = 0; drawer < 9; drawer += 8) {
            NineDrawers x = chestOf("bbbbbbbbb3");
            for (int n = 1; n <= 8; n++) {
                x.found(drawer, n % 2 * 6, false);
            }
            layAll(x, drawer, 65);
            C.due("image(), FOUND is full", x.image(), 0);
            x.face(0);
            x.forget();
            x.found(drawer, 3, true);
            layAll(x, drawer, 8);
            C.due("restore()", x.restore(), 0);
            C.due("count(1)", x.count(1), 3);
            C.due("count(4)", x.count(4), 8);
            C.due("drawer(" + drawer + ", 3)", x.drawer(drawer, 3), 65);
            C.due("delays(" + drawer + "): not there on 0 and 6", x.delays(drawer), 255 - 8);
            C.due("found(), FULL again", x.found(drawer, 0, false), FULL);
            C.due("forget()", x.forget(), 8);
            C.due("restore(): the IMAGE stays", x.restore(), 0);
            C.due("count(4)", x.count(4), 8);
            x.forget();
            layAll(x, drawer, 0);
            C.due("image(), the latest, of nothing", x.image(), 0);
            x.found(drawer, 3, true);
            layAll(x, drawer, 127);
            C.due("restore() of nothing", x.restore(), 0);
            C.due("count(3)", x.count(3), 0);
            C.due("count(4)", x.count(4), 0);
            C.due("delays(" + drawer + ")", x.delays(drawer), 255);
        }
    }

    private static void noImage() {
        C.part("promises 21 and 22: no CHEST, none was kept");
        NineDrawers x = new NineDrawers();
        C.due("image() without a CHEST", x.image(), STATE);
        C.due("restore() without a CHEST", x.restore(), STATE);
        Checks.write(x, PLAIN);
        C.due("image() with a PAGE alone", x.image(), STATE);
        x.chest();
        C.due("restore(): the refused image() kept none", x.restore(), STATE);
        C.part("promise 22: there is another CHEST since");
        C.due("image()", x.image(), 0);
        C.due("restore()", x.restore(), 0);
        x.letter('x');
        C.due("chest(), refused", x.chest(), STATE);
        C.due("restore(): a refused one is none", x.restore(), 0);
        readAnother(x, PLAIN);
        C.due("restore(), though its text is the same", x.restore(), STATE);
        C.due("restore(), again", x.restore(), STATE);
        x.person(LEAVER, 0, 0);
        C.due("image() of this one", x.image(), 1);
        C.due("restore()", x.restore(), 1);
        C.part("promise 22: what no IMAGE keeps goes on");
        x.few(0, 0, 0);
        Checks.write(x, "qq");
        C.due("restore()", x.restore(), 1);
        C.due("count(5)", x.count(5), 2);
        C.due("count(6)", x.count(6), 2);
        C.due("count(7)", x.count(7), 1);
    }

    // ---- promises 23 and 24

    private static void counts() {
        C.part("promise 23: the least and the most of each");
        NineDrawers x = chestOf("aaaaaaaaa3");
        int[] least = {9, 3, 0, 0, 0, 0, 1, 0};
        for (int what = 0; what <= 7; what++) {
            C.due("count(" + what + ")", x.count(what), least[what]);
        }
        for (int n = 0; n < 6; n++) {
            x.person(SENDER, n + 3, 0);
            C.due("count(0), " + (n + 1) + " cannot", x.count(0), 8 - n);
        }
        for (int n = 0; n < 8; n++) {
            x.found(8, 6, true);
        }
        for (int n = 0; n < 40; n++) {
            x.few(8, 127, 0);
        }
        for (int n = 0; n < 12; n++) {
            x.letter('~');
        }
        int[] want = {3, 3, 6, 0, 8, 12, 1, 40};
        for (int what = 0; what <= 7; what++) {
            C.due("count(" + what + "), full", x.count(what), want[what]);
        }
        for (int drawer = 0; drawer < 9; drawer++) {
            layAll(x, drawer, 127);
        }
        C.due("count(3), all", x.count(3), 63);
        C.due("count(0), all again", x.count(0), 9);
        for (int n = 2; n <= 9; n++) {
            readAnother(x, PLAIN);
            C.due("count(6)", x.count(6), n);
        }
        C.due("count(-1)", x.count(-1), OUTSIDE);
        C.due("count(8)", x.count(8), OUTSIDE);
    }

    private static long digestOf(long... numbers) {
        long h = 853;
        for (long n : numbers) {
            h = 31 * h + n;
        }
        return h;
    }

    private static void digests() {
        C.part("promise 24: no CHEST, an empty PAGE to a full one");
        NineDrawers x = new NineDrawers();
        C.due("digest()", x.digest(), digestOf(0, 0, 0, 0, 0, 0, 0, 0));
        x.letter(32);
        C.due("digest() of 32", x.digest(), digestOf(32, 0, 0, 0, 0, 0, 1, 0, 0));
        x.letter(126);
        C.due("digest() of 32, 126", x.digest(), digestOf(32, 126, 0, 0, 0, 0, 0, 2, 0, 0));
        for (int n = 3; n <= 12; n++) {
            x.letter('0');
        }
        C.due("digest() of a full PAGE", x.digest(),
            digestOf(32, 126, 48, 48, 48, 48, 48, 48, 48, 48, 48, 48, 0, 0, 0, 0, 0, 12, 0, 0));
        x.blank();
        C.due("digest() of an empty PAGE", x.digest(), digestOf(0, 0, 0, 0, 0, 0, 0, 0));
        C.part("promise 24: a CHEST, no PEOPLE, wrapping as longs");
        long h = 853;
        for (int drawer = 0; drawer < 9; drawer++) {
            for (int n : new int[] {10, 11, 0, 0, 1, -1, 0, 0, 0, 0, 0, 0, 0, 0, 255}) {
                h = 31 * h + n;
            }
        }
        for (int n : new int[] {9, 1, 0, 0, 0, 0, 1, 0}) {
            h = 31 * h + n;
        }
        C.due("digest()", chestOf("aaaaaaaaa1").digest(), h);
    }

    private static void digestOfPeople() {
        C.part("promise 24: PEOPLE, what cannot be, the first and the last DRAWER");
        NineDrawers x = chestOf("baaaaaaaa0");
        x.person(DENIER, 8, 6);
        x.person(SENDER, 0, 1);
        x.lay(0, 0, true);
        x.found(0, 6, false);
        x.few(8, 0, 0);
        x.letter('~');
        long h = 853;
        // A SENDER, one AHEAD, so on DAYS 1, 3, 5. He cannot be 0 AHEAD, and by 2 and 4 something would be there on 6.
        for (int n : new int[] {11, 11, 2, 1, 1, NONE, 42, 0, 1, 0, 1, 0, 1, 0, 255 - 8 - 32 - 128}) {
            h = 31 * h + n;
        }
        for (int drawer = 1; drawer < 8; drawer++) {
            for (int n : new int[] {10, 10, 0, 0, 1, NONE, 0, 0, 0, 0, 0, 0, 0, 0, 255}) {
                h = 31 * h + n;
            }
        }
        for (int n : new int[] {10, 10, 1, 0, 0, 0, NONE, NONE, NONE, NONE, NONE, NONE, NONE, NONE, 255 - 8}) {
            h = 31 * h + n;
        }
        // None AHEAD, only LEAVERS, RETURNERS and WEEKLY ones can be.
        for (int n : new int[] {DENIER, 8, 6, 21, 0}) {
            h = 31 * h + n;
        }
        // No RETURNER, no WEEKLY one on 5, no DENIER who denies 2 or 4: by these something would be there on 6.
        for (int n : new int[] {SENDER, 0, 1, 7 + 7 + 6 + 5, 0}) {
            h = 31 * h + n;
        }
        for (int n : new int[] {'~', 8, 0, 2, 1, 1, 1, 1, 1}) {
            h = 31 * h + n;
        }
        C.due("digest()", x.digest(), h);
    }

    public static void main(String[] args) {
        eachLetterInEachPlace();
        aheadByFacing();
        lostDays();
        daysOfNoWeek();
        newObject();
        lastCall();
        codes();
        blanks();
        faults();
        pagesThatAreNone();
        howManyHaveADelay();
        anotherChest();
        faces();
        bitsOfDrawers();
        agreeing();
        cannot();
        persons();
        abouts();
        casts();
        moves();
        lays();
        agrees();
        sures();
        fewestOfDays();
        fewOfPeople();
        fortyTimes();
        foundAndForget();
        foundOnEachDay();
        delays();
        whos();
        whoAloneCanBe();
        whoBesideOthers();
        timesAndSeeds();
        drawnForEachDrawer();
        imagesOfPeople();
        imagesOfAllElse();
        noImage();
        counts();
        digests();
        digestOfPeople();
        C.end();
    }
}
