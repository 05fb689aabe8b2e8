/** Section 3 and promises 10 to 15, sentence by sentence: move, amend, assembly, DECREES, LAWS, would. */
public final class EdgesAssemblyTest {
    private static final Checks C = new Checks();
    private static final int[] FAR = {Integer.MIN_VALUE, Integer.MAX_VALUE};

    /** The three (VIEW 5) with a CHAIR on DAY 0, and others, of 20 years, of DEMES in turn from 1 on, with these VIEWS. */
    private static Kleroterion seated(int... views) {
        Kleroterion x = Checks.three();
        for (int k = 0; k < views.length; k++) x.enroll(1 + k % 7, 20, 50, views[k]);
        C.due("1: all are FULL", x.city(6), 3 + views.length);
        x.seat();
        C.due("2: a CHAIR", x.council(2) >= 0, true);
        return x;
    }

    /** The first and the last KIND, TOPIC, LEAN and AMOUNT are taken, what is next to them is refused. */
    private static void moveRanges() {
        int[][] ranges = {{0, 5}, {0, 7}, {0, 15}, {0, 300}};
        Kleroterion x = Checks.three();
        for (int argument = 0; argument < 4; argument++) {
            for (int end = 0; end < 2; end++) {
                int[] w = {0, 0, 5, 0};
                w[argument] = ranges[argument][end];
                C.due("10: taken", x.move(0, w[0], w[1], w[2], w[3]), 2 * argument + end);
                int[] v = w.clone();
                v[argument] += end == 0 ? -1 : 1;
                C.noArgument("10: " + v[argument], x, () -> x.move(0, v[0], v[1], v[2], v[3]));
                int[] f = w.clone();
                f[argument] = FAR[end];
                C.noArgument("10: " + f[argument], x, () -> x.move(0, f[0], f[1], f[2], f[3]));
                C.noIndex("10: nobody, ahead of that", x, () -> x.move(3, f[0], f[1], f[2], f[3]));
            }
        }
        C.due("3: eight are on the AGENDA", x.city(11), 8);
        C.noState("10: a ninth one", x, () -> x.move(0, 0, 0, 5, 0));
        C.noIndex("10: far", x, () -> x.move(FAR[0], 0, 0, 5, 0));
        C.noIndex("10: far", x, () -> x.move(FAR[1], 0, 0, 5, 0));
        C.noIndex("10: below 0", x, () -> x.move(-1, 0, 0, 5, 0));
    }

    /** Half of the COUNCIL or more; of VIEWS 5, 5, 15 one is less, two are more; of VIEWS 5 and 15 three of six are half. */
    private static void councilVotes() {
        Kleroterion x = new Kleroterion();
        x.enroll(0, 40, 0, 5);
        x.enroll(0, 40, 0, 5);
        x.enroll(4, 40, 0, 15);
        C.due("3: without a COUNCIL always", x.move(0, 0, 0, 0, 0), 0);
        C.due("8: seat", x.seat(), 3);
        long before = x.digest();
        C.due("3: one of three", x.move(0, 0, 0, 15, 0), -2);
        C.due("3: by that nothing is another", x.digest(), before);
        C.due("3: two of three", x.move(2, 0, 0, 4, 0), 1);
        C.due("3: all", x.move(2, 0, 0, 10, 0), 2);
        Kleroterion y = Checks.three();
        for (int k = 0; k < 3; k++) y.enroll(1, 40, 0, 15);
        C.due("8: seat", y.seat(), 6);
        C.due("3: three of six", y.move(0, 0, 0, 9, 0), 0);
        C.due("3: three of six", y.move(0, 0, 0, 11, 0), 1);
        for (int k = 2; k < 8; k++) C.due("3: six of six", y.move(0, 0, 0, 10, 0), k);
        C.noState("10: there are 8, whatever the COUNCIL lets", y, () -> y.move(0, 0, 0, 15, 0));
    }

    /** The mover is FULL: not one who WAITS, is OUT, STRUCK, DEAD or EXILED; not BARRED (till DAY 39). */
    private static void movers() {
        Kleroterion x = Checks.three();
        x.enroll(1, 20, 100, 5);
        x.enroll(2, 20, 0, 5);
        x.enroll(0, 40, 0, 15);
        x.enroll(0, 40, 0, 15);
        x.enroll(3, 70, 0, 5);
        x.appeal(6);
        x.sue(3, 4, 1, 1, 5);
        x.sue(3, 4, 1, 1, 15);
        C.due("7: tried", x.court(), 2);
        C.noState("10: BARRED", x, () -> x.move(3, 0, 0, 5, 0));
        C.noState("10: OUT", x, () -> x.move(4, 0, 0, 5, 0));
        C.noState("10: WAITS", x, () -> x.move(5, 0, 0, 5, 0));
        C.noState("10: STRUCK", x, () -> x.move(6, 0, 0, 5, 0));
        C.noArgument("10: STRUCK, but a wrong KIND ahead of that", x, () -> x.move(6, 6, 0, 5, 0));
        x.pass(39);
        C.noState("1: BARRED on DAY 39", x, () -> x.move(3, 0, 0, 5, 0));
        x.pass(1);
        C.due("1: a DAY below that, so not on DAY 40", x.move(3, 0, 0, 5, 0), 0);
        for (int k = 0; k < 4; k++) x.pass(40);
        C.noState("10: DEAD", x, () -> x.move(7, 0, 0, 5, 0));
        Kleroterion y = new Kleroterion();
        y.found(8, 0);
        y.pass(20);
        y.sherds();
        C.noState("10: EXILED", y, () -> y.move(0, 0, 0, 5, 0));
        Kleroterion z = Checks.overthrown();
        C.noState("10: the people do not rule", z, () -> z.move(0, 0, 0, 5, 0));
    }

    /** From each LEAN to each other one: those that differ by 3 or less. */
    private static void amend() {
        Kleroterion x = new Kleroterion();
        x.enroll(0, 40, 0, 5);
        C.noIndex("11: an empty AGENDA", x, () -> x.amend(0, 5));
        for (int lean : new int[] {0, 1, 2, 3, 7, 12, 15}) {
            for (int to = -2; to <= 17; to++) {
                Kleroterion y = new Kleroterion();
                y.enroll(0, 40, 0, 5);
                y.move(0, 0, 0, lean, 0);
                int wanted = to;
                if (to < 0 || to > 15 || Math.abs(to - lean) > 3) {
                    C.noArgument("11: from " + lean + " to " + to, y, () -> y.amend(0, wanted));
                } else {
                    C.due("11: that before", y.amend(0, to), lean);
                    C.due("11: that from now on", y.amend(0, to), to);
                }
            }
        }
        x.move(0, 0, 0, 5, 0);
        x.move(0, 0, 0, 9, 0);
        C.due("11: the last one", x.amend(1, 8), 9);
        C.due("11: not the other one", x.amend(0, 5), 5);
        C.noIndex("11: 2, ahead of a wrong LEAN", x, () -> x.amend(2, 16));
        C.noIndex("11: -1, ahead of a wrong LEAN", x, () -> x.amend(-1, -1));
        for (int far : FAR) C.noIndex("11: far", x, () -> x.amend(far, 5));
        for (int far : FAR) C.noArgument("11: far", x, () -> x.amend(0, far));
    }

    /** PRESENT: the FULL ones whose number and DAY together, modulo 4, are not 0. */
    private static void present() {
        for (int many = 0; many <= 9; many++) {
            Kleroterion x = new Kleroterion();
            if (many > 0) x.found(many, 0);
            for (int day = 0; day < 5; day++) {
                int due = 0;
                for (int k = 0; k < many; k++) due += (k + day) % 4 == 0 ? 0 : 1;
                C.due("3: PRESENT of " + many + " on DAY " + day, x.city(14), due);
                x.pass(1);
            }
        }
        Kleroterion x = Checks.three();
        x.enroll(0, 20, 0, 15);
        x.enroll(1, 20, 100, 5);
        x.enroll(2, 20, 0, 5);
        C.due("3: one WAITS", x.city(14), 3);
        x.sue(4, 5, 1, 1, 5);
        x.court();
        C.due("3: one more is OUT", x.city(14), 2);
    }

    /** They cost 1 for each 4 of them (their number / 4): 2 PRESENT 0, 3 none, 4 one, 7 one, 8 two. */
    private static void cost() {
        int[][] due = {{3, 2, 0}, {4, 3, 0}, {6, 4, 1}, {10, 7, 1}, {11, 8, 2}};
        for (int[] d : due) {
            Kleroterion x = seated(new int[d[0] - 3]);
            C.due("3: PRESENT", x.city(14), d[1]);
            C.due("12: nothing on the AGENDA", x.assembly(), 0);
            C.due("3: it costs", x.money(0), 300 - d[2]);
        }
    }

    /** More than half of those PRESENT: of 1, 2, 3, 5, 6, 7 three are not enough, four are; of 1, 2, 3 two are. */
    private static void moreThanHalf() {
        Kleroterion x = seated(15, 15, 15, 15, 5);
        x.move(0, 0, 0, 5, 0);
        x.move(0, 0, 1, 10, 0);
        C.due("15: 1, 2, 7 of six", x.would(0), -1);
        C.due("15: all", x.would(1), 6);
        C.due("12: just half do not PASS it", x.assembly(), 2);
        C.due("13: the TOPIC of the DECREE", x.ofDecree(0, 1), 1);
        Kleroterion y = seated(15, 5, 5, 15, 5);
        y.move(0, 0, 0, 5, 0);
        C.due("15: 1, 2, 5, 7 of six", y.would(0), 4);
        C.due("12: they PASS it", y.assembly(), 1);
        Kleroterion z = seated(15);
        z.move(0, 0, 0, 5, 0);
        C.due("15: two of three", z.would(0), 2);
        C.due("12: they PASS it", z.assembly(), 1);
    }

    /** On DAY 0 the only FULL ones are 0, 4, 8: they have a CHAIR, but nobody is PRESENT. */
    private static void nobodyPresent() {
        Kleroterion x = new Kleroterion();
        for (int k = 0; k < 9; k++) x.enroll(0, 40, 100, k % 4 == 0 ? 5 : 15);
        C.due("1: three are FULL", x.city(6), 3);
        C.due("8: seat", x.seat(), 3);
        C.due("2: a CHAIR", x.council(2) >= 0, true);
        C.due("36: nobody is PRESENT", x.city(14), 0);
        x.move(0, 0, 0, 5, 0);
        x.move(0, 4, 0, 5, 1);
        C.due("15: none of none is not more than half", x.would(0), -1);
        C.due("15: none are not 6 of 10 of three", x.would(1), -1);
        C.due("12: nothing PASSES", x.assembly(), 0);
        C.due("3: it costs nothing", x.money(0), 300);
        C.due("3: the AGENDA is empty", x.city(11), 0);
        C.noState("12: but there was one", x, x::assembly);
    }

    /** Nobody FULL at all: 3 times none are 2 times none or more, so a MOTION of KIND 4 would PASS with 0 (by its words). */
    private static void nobodyFull() {
        Kleroterion x = new Kleroterion();
        x.enroll(0, 70, 0, 5);
        x.enroll(0, 70, 0, 5);
        x.move(0, 4, 0, 5, 1);
        x.move(0, 0, 0, 5, 0);
        x.move(0, 5, 0, 5, 0);
        for (int k = 0; k < 5; k++) x.pass(40);
        C.due("0: both are DEAD", x.roll(4, 75, 0), 2);
        C.due("3: their MOTIONS stay", x.city(11), 3);
        C.due("15: KIND 4", x.would(0), 0);
        C.due("15: KIND 0", x.would(1), -1);
        C.due("15: KIND 5", x.would(2), -1);
        C.noState("12: no CHAIR", x, x::assembly);
    }

    /** KIND 4: 3 times those for it are 2 times those PRESENT or more; 10 times those PRESENT 6 times all FULL ones or more. */
    private static void callBackVotes() {
        Kleroterion x = seated(15, 5, 5, 15, 15);
        x.move(0, 4, 0, 10, 3);
        x.move(0, 4, 0, 5, 3);
        C.due("15: six of six", x.would(0), 6);
        C.due("15: 1, 2, 5 of six", x.would(1), -1);
        Kleroterion y = seated(15, 5, 5, 5, 15);
        y.move(0, 4, 0, 5, 3);
        y.move(0, 0, 0, 5, 3);
        C.due("15: 1, 2, 5, 6 of six are two thirds", y.would(0), 4);
        C.due("12: so it PASSES", y.assembly(), 3);
        Kleroterion z = seated(15, 15, 5, 5, 15);
        z.move(0, 4, 0, 5, 3);
        z.move(0, 0, 0, 5, 3);
        z.pass(1);
        C.due("3: PRESENT: not 3, not 7", z.city(14), 6);
        C.due("15: 0, 1, 2, 5, 6 of six", z.would(0), 5);
        for (int k = 5; k <= 6; k++) {
            // FULL ones: 0 to 4 (absent: 0 and 4); then 8 too
            Kleroterion w = new Kleroterion();
            for (int c = 0; c < 5; c++) w.enroll(c, 40, 0, 5);
            if (k == 6) for (int c = 5; c < 9; c++) w.enroll(0, 40, 0, c == 8 ? 5 : 15);
            w.move(0, 4, 0, 5, 0);
            w.move(0, 0, 0, 5, 0);
            C.due("3: FULL ones", w.city(6), k);
            C.due("3: PRESENT", w.city(14), 3);
            C.due("15: three of " + k + " FULL ones", w.would(0), k == 5 ? 3 : -1);
            C.due("15: of KIND 0 that is enough", w.would(1), 3);
        }
    }

    /** KIND 4, with 0, 4, 8, 12, 16 absent: 5 of 9 FULL ones are less than 6 of 10, 6 of 10 are enough, 6 of 11 less. */
    private static void sixOfTen() {
        int[][] waiting = {{7, 9, 10, 11}, {9, 10, 11}, {9, 10, 11, 13, 14, 15}};
        int[] many = {13, 13, 17};
        int[] present = {5, 6, 6};
        int[] due = {-1, 6, -1};
        for (int k = 0; k < 3; k++) {
            Kleroterion x = new Kleroterion();
            for (int c = 0; c < many[k]; c++) {
                int view = 5;
                for (int w : waiting[k]) if (w == c) view = 15;
                x.enroll(0, 40, 0, view);
            }
            x.move(0, 4, 0, 5, 0);
            C.due("3: FULL ones", x.city(6), many[k] - waiting[k].length);
            C.due("3: PRESENT", x.city(14), present[k]);
            C.due("15: KIND 4", x.would(0), due[k]);
        }
    }

    /** On DAY 10 or later: 3 is EXILED, there is a CHAIR, no WAR is on; what each KIND does with AMOUNT 3, and nothing else. */
    private static void eachKind() {
        for (int kind = 0; kind <= 5; kind++) {
            Kleroterion x = oneExiled();
            x.move(0, kind, 2, 5, 3);
            if (x.would(0) == -1) x.pass(1);
            int cost = x.city(14) / 4;
            int treasury = x.money(0);
            C.due("12: KIND " + kind + " PASSES", x.assembly(), 1);
            C.due("3: a DECREE by KIND 0", x.city(12), kind == 0 ? 1 : 0);
            C.due("3: a LAW by KIND 1", x.law(2), kind == 1 ? 5 : -1);
            C.due("3: the PURSE by KIND 2", x.money(2), kind == 2 ? 3 : 0);
            C.due("3: the CHEST by KIND 3", x.money(1), kind == 3 ? 3 : 0);
            C.citizen("3: called back by KIND 4", x, 3, 6, kind == 4 ? 1 : 3);
            C.due("3: a WAR by KIND 5", x.city(10), kind == 5 ? 3 : -1);
            C.due("3: paid", treasury - x.money(0), cost + (kind == 1 || kind == 2 || kind == 3 ? 3 : 0));
            C.due("24: a board by KIND 1 alone", x.jury(0), kind == 1 ? 3 : 0);
        }
    }

    /** By lost fights of nobody: the people do not rule, then they do; each further one who is EXILED is a DRAW more. */
    private static Kleroterion oneExiled() {
        for (int more = 0; more < 8; more++) {
            Kleroterion x = Checks.three();
            x.enroll(1, 20, 50, 15);
            for (int k = 0; k < 6; k++) x.enroll(k % 2 == 0 ? 2 : 6, 20, 50, 5);
            x.seat();
            Checks.tillChair(x);
            x.move(0, 5, 0, 5, 60);
            x.assembly();
            for (int k = 0; k < 7; k++) {
                x.levy(8);
                x.pass(1);
            }
            C.due("13: the strength is 0", x.city(10), 0);
            x.pass(3);
            x.rise(15, true);
            C.citizen("14: EXILED", x, 3, 6, 3);
            for (int k = 0; k < more; k++) {
                x.enroll(5, 20, 0, 15);
                x.rise(15, true);
            }
            x.rise(5, true);
            for (int k = 0; k < 20; k++) x.enroll(3, 20, 50, 5);
            for (int k = 0; k < 3 && x.city(10) == 0; k++) {
                x.levy(8);
                if (x.city(10) == 0) x.pass(1);
            }
            x.seat();
            for (int k = 0; k < 25 && x.council(2) == -1; k++) x.pass(1);
            if (x.council(2) >= 0 && x.city(10) == -1 && x.city(2) > 0 && x.city(0) % 10 == 0) return x;
        }
        C.due("3: such a city", false, true);
        return Checks.three();
    }

    /** A board is of 1 ROW of each TRIBE, with two ROWS of tickets too. */
    private static void boardOfOneRow() {
        Kleroterion x = new Kleroterion();
        for (int k = 0; k < 6; k++) x.enroll(0, 40, 100, 5);
        x.seat();
        Checks.tillChair(x);
        x.move(0, 1, 0, 5, 0);
        C.due("12: PASSES", x.assembly(), 1);
        C.due("3: 1 ROW", x.jury(0), 3);
        x.enroll(0, 40, 0, 15);
        C.due("5: an APPEAL", x.appeal(6), false);
        C.due("1: 1 ROW", x.jury(0), 3);
    }

    /**
     * FULL ones are those as the ASSEMBLY begins: three of five are 6 of 10, of six they would not be.
     * The first LUCK at which there is a CHAIR on DAY 0 and, after the people ruled not, on DAY 10.
     */
    private static void fullAsItBegins() {
        for (int k = 0; k < 64; k++) {
            Kleroterion x = new Kleroterion();
            for (int s = 0; s < k; s++) x.seat();
            for (int c = 0; c < 3; c++) x.enroll(0, 40, 100, 5);
            x.enroll(1, 20, 0, 15);
            x.enroll(2, 20, 0, 5);
            x.enroll(5, 20, 0, 15);
            x.enroll(6, 20, 0, 5);
            x.seat();
            if (x.council(2) == -1) continue;
            Checks.loseSevenTimes(x, 5);
            x.pass(3);
            x.rise(15, true);
            x.rise(15, true);
            C.due("14: two are EXILED", x.roll(3, 0, -1), 2);
            C.due("14: the people rule", x.rise(5, true), true);
            x.seat();
            if (x.council(2) == -1) continue;
            C.due("3: FULL ones", x.city(6), 5);
            C.due("3: PRESENT: not 2, not 6", x.city(14), 3);
            x.move(0, 4, 0, 5, 3);
            x.move(0, 4, 0, 5, 5);
            x.move(0, 4, 0, 5, 3);
            C.due("12: all PASS", x.assembly(), 7);
            C.citizen("3: called back", x, 3, 6, 1);
            C.citizen("3: called back", x, 5, 6, 1);
            C.citizen("3: owes nothing", x, 5, 7, 0);
            C.due("36: FULL ones then", x.city(6), 7);
            return;
        }
        C.due("3: one LUCK does", false, true);
    }

    /** KIND 4 does nothing to one who is FULL, OUT, WAITS, is STRUCK, or is nobody. */
    private static void callBackOfOthers() {
        Kleroterion x = Checks.three();
        x.enroll(1, 20, 100, 5);
        x.enroll(2, 20, 0, 5);
        x.enroll(0, 40, 0, 15);
        x.enroll(0, 40, 0, 15);
        x.appeal(6);
        x.sue(3, 4, 1, 1, 5);
        x.court();
        x.seat();
        Checks.tillChair(x);
        int[] status = {1, 1, 1, 1, 2, 0, 5};
        int[] named = {3, 4, 5, 6, 7, 40, 300};
        while (x.city(14) * 10 < x.city(6) * 6) x.pass(1);
        for (int k = 0; k < named.length; k++) C.due("10: moved", x.move(0, 4, 0, 5, named[k]), k);
        C.due("12: all PASS", x.assembly(), 127);
        for (int c = 0; c < 7; c++) C.citizen("3: as before", x, c, 6, status[c]);
    }

    /** A board: more than half of a JURY of 1 ROW; half is not enough, nor is nobody. */
    private static void boards() {
        for (int third = 0; third <= 1; third++) {
            Kleroterion x = Checks.three();
            for (int k = 0; k < 3; k++) x.enroll(1, 40, 0, 15);
            for (int k = 0; k < 3 * third; k++) x.enroll(2, 40, 0, 5);
            for (int k = 0; k < 8; k++) x.enroll(3, 20, 0, 5);
            x.seat();
            Checks.tillChair(x);
            x.move(0, 1, 6, 5, 0);
            int treasury = x.money(0);
            int cost = x.city(14) / 4;
            C.due("12: PASSES", x.assembly(), 1);
            C.due("3: the board", x.jury(0), 6 + 3 * third);
            C.due("24: for it", x.jury(1), 3 + 3 * third);
            C.due("3: LAW by " + (3 + 3 * third) + " of " + (6 + 3 * third), x.law(6), third == 0 ? -1 : 5);
            C.due("5: it costs 1 for each", x.money(0), treasury - cost - 6 - 3 * third);
            C.due("24: a board tries no suit", x.jury(3) + x.jury(4) + x.jury(5), 0);
        }
    }

    /** One of the three WAITS (2 of the 5 others in the DEME AGREE), so that nobody is on the board, but CHAIR is there. */
    private static void emptyBoard() {
        Kleroterion x = new Kleroterion();
        x.enroll(0, 40, 0, 5);
        x.enroll(0, 40, 0, 5);
        x.enroll(4, 40, 0, 5);
        for (int k = 0; k < 2; k++) x.enroll(4, 20, 0, 10);
        for (int k = 0; k < 3; k++) x.enroll(4, 20, 0, 11);
        C.due("1: all are FULL", x.city(6), 8);
        x.seat();
        Checks.tillChair(x);
        if (x.council(2) == 2) x.pass(1);
        C.due("2: CHAIR", x.council(2) == 0 || x.council(2) == 1, true);
        C.due("4: one WAITS", x.purge(4), 1);
        C.citizen("4: that one", x, 2, 6, 0);
        C.due("9: two are in the COUNCIL", x.council(0), 2);
        x.move(0, 1, 0, 8, 0);
        int treasury = x.money(0) - x.city(14) / 4;
        C.due("12: PASSES", x.assembly(), 1);
        C.due("3: nobody on the board", x.jury(0), 0);
        C.due("3: no LAW", x.law(0), -1);
        C.due("5: costs nothing", x.money(0), treasury);
        C.due("5: no UNREST", x.city(7), 0);
    }

    /** One LAW for each TOPIC: a new one takes its place; what the board does not want leaves the old one. */
    private static void laws() {
        Kleroterion x = seated(10, 10, 10, 15, 15, 15);
        x.move(0, 1, 7, 5, 0);
        x.move(0, 1, 0, 10, 0);
        C.due("12: PASS", x.assembly(), 3);
        C.due("14: LAW on 7", x.law(7), 5);
        C.due("14: LAW on 0", x.law(0), 10);
        x.pass(1);
        x.move(0, 1, 7, 9, 0);
        x.amend(0, 11);
        C.due("12: the new one", x.assembly(), 1);
        C.due("3: the board (all VIEWS 5) wants no 11", x.jury(1), 0);
        C.due("3: so the old one stays", x.law(7), 5);
        x.pass(1);
        x.move(0, 1, 7, 8, 0);
        x.assembly();
        C.due("3: a new LAW", x.law(7), 8);
        for (int t = 1; t < 7; t++) C.due("14: none on " + t, x.law(t), -1);
        for (int topic : new int[] {-1, 8, FAR[0], FAR[1]}) C.noIndex("14: TOPIC " + topic, x, () -> x.law(topic));
    }

    /** A DECREE HOLDS, if the LAW differs from it by 6 or less: asked anew each time; those of other TOPICS have no part in it. */
    private static void yields() {
        Kleroterion x = seated(5);
        x.move(0, 0, 1, 4, 0);
        x.move(0, 0, 1, 8, 0);
        x.move(0, 0, 1, 10, 0);
        x.move(0, 0, 2, 10, 0);
        C.due("12: PASS", x.assembly(), 15);
        hold("3: the latest one of a TOPIC", x, 0, 0, 1, 1);
        Kleroterion y = seated(5, 5, 5);
        y.move(0, 0, 1, 9, 0);
        y.move(0, 0, 1, 10, 0);
        y.move(0, 0, 1, 7, 0);
        y.move(0, 1, 1, 3, 0);
        y.move(0, 1, 2, 0, 0);
        C.due("12: all PASS", y.assembly(), 31);
        hold("3: 9 and 10 differ from 3 by 6 and 7, a later one HOLDS", y, 0, 0, 1);
        y.pass(1);
        y.move(0, 1, 1, 1, 0);
        C.due("12: PASSES", y.assembly(), 1);
        hold("3: 7 differs from 1 by 6", y, 0, 0, 1);
        y.pass(1);
        y.move(0, 1, 1, 0, 0);
        C.due("12: PASSES", y.assembly(), 1);
        hold("3: 7 differs from 0 by 7", y, 0, 0, 0);
        C.due("38: sound", y.isSound(), true);
    }

    private static void hold(String when, Kleroterion x, int... due) {
        for (int k = 0; k < due.length; k++) C.due(when + ": " + k, x.ofDecree(k, 4), due[k]);
    }

    /** A later one that yields lets the earlier one HOLD; so does one that is VOID, or has a suit that waits. */
    private static void earlierHolds() {
        Kleroterion x = seated(5, 5, 5);
        x.move(3, 0, 1, 3, 0);
        x.move(3, 0, 1, 10, 0);
        C.due("12: PASS", x.assembly(), 3);
        hold("3: the later one", x, 0, 1);
        x.pass(1);
        x.move(0, 1, 1, 3, 0);
        x.assembly();
        hold("3: it yields", x, 1, 0);
        Kleroterion y = seated(5, 5, 5);
        y.move(3, 0, 1, 0, 0);
        y.move(3, 0, 1, 0, 0);
        y.assembly();
        C.due("20: PROOF 8", y.challenge(4, 1, 10), 0);
        hold("3: a suit waits", y, 1, 0);
        y.court();
        C.due("7: WON", y.jury(3), 1);
        hold("3: VOID", y, 1, 0);
        y.challenge(4, 0, 10);
        hold("3: a suit waits, one is VOID", y, 0, 0);
        C.due("38: sound", y.isSound(), true);
    }

    /** The latest 12 are kept, the oldest one is 0. */
    private static void twelve() {
        Kleroterion x = seated(5, 5, 5);
        for (int k = 0; k < 8; k++) x.move(0, 0, k, 5, 0);
        C.due("12: all PASS", x.assembly(), 255);
        C.due("36: DECREES", x.city(12), 8);
        C.noIndex("13: no ninth one", x, () -> x.ofDecree(8, 0));
        x.pass(1);
        for (int k = 0; k < 4; k++) x.move(0, 0, k, 6, 0);
        x.assembly();
        C.due("3: twelve are kept", x.city(12), 12);
        C.due("3: the oldest one is there still", x.ofDecree(0, 3), 0);
        hold("3: later ones HOLD", x, 0, 0, 0, 0, 1, 1, 1, 1, 1, 1, 1, 1);
        x.pass(1);
        x.move(2, 0, 7, 7, 0);
        x.assembly();
        C.due("3: thirteen are not", x.city(12), 12);
        int[] topics = {1, 2, 3, 4, 5, 6, 7, 0, 1, 2, 3, 7};
        for (int k = 0; k < 12; k++) C.due("3: numbered anew", x.ofDecree(k, 1), topics[k]);
        int[] last = {2, 7, 7, 2, 1};
        for (int k = 0; k < 5; k++) C.due("13: of the latest one", x.ofDecree(11, k), last[k]);
        for (int what : new int[] {-1, 5, FAR[0], FAR[1]}) {
            C.noArgument("13: what " + what, x, () -> x.ofDecree(11, what));
            C.noIndex("13: no such DECREE, ahead of that", x, () -> x.ofDecree(12, what));
        }
        for (int far : FAR) C.noIndex("13: far", x, () -> x.ofDecree(far, 0));
    }

    /** If the TREASURY has AMOUNT: just so much is enough, one less is not; what ahead of that was paid is not there. */
    private static void spending() {
        Kleroterion x = seated(5, 5, 5, 5, 5);
        C.due("3: PRESENT", x.city(14), 6);
        x.move(0, 2, 0, 5, 300);
        x.move(0, 3, 0, 5, 299);
        x.move(0, 3, 0, 5, 0);
        C.due("12: PASSING is not having", x.assembly(), 7);
        C.due("3: 299 were there, not 300", x.money(2), 0);
        C.due("3: CHEST", x.money(1), 299);
        C.due("27: TREASURY", x.money(0), 0);
        Kleroterion y = seated(5, 5, 5);
        y.move(0, 2, 0, 5, 100);
        y.move(0, 3, 0, 5, 120);
        y.move(0, 2, 0, 5, 79);
        y.assembly();
        C.due("3: more in the PURSE", y.money(2), 179);
        C.due("3: the CHEST", y.money(1), 120);
        C.due("27: paid out", y.money(8), 300 - y.money(0));
        C.due("5: a poor TREASURY makes no UNREST here", y.city(7), 0);
    }

    /** KIND 5: if no WAR is on, it is, of the strength AMOUNT: 0 and 300 too. */
    private static void wars() {
        for (int strength : new int[] {0, 1, 300}) {
            Kleroterion x = seated(5, 5);
            C.due("36: no WAR", x.city(10), -1);
            x.move(0, 5, 0, 5, strength);
            x.move(0, 5, 0, 5, 77);
            C.due("12: both PASS", x.assembly(), 3);
            C.due("3: the first one is on", x.city(10), strength);
        }
    }

    /** Once a DAY, with a CHAIR, with the AGENDA empty too. */
    private static void assemblyRefused() {
        Kleroterion x = Checks.three();
        C.noState("12: no COUNCIL, no CHAIR", x, x::assembly);
        x.seat();
        C.due("12: nothing to vote on", x.assembly(), 0);
        C.noState("12: once a DAY", x, x::assembly);
        x.move(0, 0, 0, 5, 0);
        C.noState("12: once a DAY", x, x::assembly);
        x.pass(1);
        C.due("12: the next DAY", x.assembly(), 1);
        x.pass(2);
        C.due("2: all were CHAIR", x.council(2), -1);
        C.noState("12: no CHAIR", x, x::assembly);
        Kleroterion y = Checks.overthrown();
        C.noState("12: the people do not rule", y, y::assembly);
    }

    /** If an ASSEMBLY was held now: with a CHAIR or not, on a DAY that had one or not. */
    private static void would() {
        Kleroterion x = new Kleroterion();
        C.noIndex("15: an empty AGENDA", x, () -> x.would(0));
        x.enroll(0, 40, 0, 5);
        x.enroll(1, 40, 0, 9);
        x.move(0, 0, 0, 0, 0);
        x.move(0, 0, 0, 5, 0);
        C.due("15: of 1", x.would(1), 1);
        C.due("15: not of 1", x.would(0), -1);
        x.pass(1);
        C.due("15: one of two", x.would(0), -1);
        C.due("15: two of two", x.would(1), 2);
        x.pass(2);
        C.due("15: of 0 alone", x.would(0), 1);
        C.noIndex("15: 2", x, () -> x.would(2));
        C.noIndex("15: -1", x, () -> x.would(-1));
        for (int far : FAR) C.noIndex("15: far", x, () -> x.would(far));
        Kleroterion y = seated(5);
        y.assembly();
        y.move(0, 0, 0, 5, 0);
        C.due("15: behind an ASSEMBLY of the DAY", y.would(0), 3);
    }

    public static void main(String[] args) {
        moveRanges();
        councilVotes();
        movers();
        amend();
        present();
        cost();
        moreThanHalf();
        nobodyPresent();
        nobodyFull();
        callBackVotes();
        sixOfTen();
        eachKind();
        boardOfOneRow();
        fullAsItBegins();
        callBackOfOthers();
        boards();
        emptyBoard();
        laws();
        yields();
        earlierHolds();
        twelve();
        spending();
        wars();
        assemblyRefused();
        would();
        C.end();
    }
}
