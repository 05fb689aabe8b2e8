/** Sections 5, 6, 7 and promises 19 to 24, sentence by sentence: JURIES, arbitrators, suits, COURT. */
public final class EdgesCourtsTest {
    private static final Checks C = new Checks();
    private static final int[] FAR = {Integer.MIN_VALUE, Integer.MAX_VALUE};

    /** The three who judge (VIEW 5), and 3 to 6 (DEMES 1 to 4, VIEW 5), of 20 years, with a WEALTH of 100. */
    private static Kleroterion parties() {
        Kleroterion x = Checks.three();
        for (int k = 3; k <= 6; k++) x.enroll(k - 2, 20, 100, 5);
        return x;
    }

    /** JURORS are FULL, 30 or older, and not of the case: of four tickets a ROW of three is left, or not. */
    private static void jurors() {
        for (int age = 29; age <= 30; age++) {
            Kleroterion x = new Kleroterion();
            for (int k = 0; k < 3; k++) x.enroll(0, k == 1 ? age : 50, 100, 5);
            x.enroll(1, 20, 100, 5);
            x.enroll(2, 20, 100, 5);
            x.sue(3, 4, 0, 1, 5);
            x.court();
            C.due("5: a JURY with one of " + age, x.jury(0), age == 30 ? 3 : 0);
        }
        Kleroterion out = new Kleroterion();
        for (int k = 0; k < 6; k++) out.enroll(k / 3, 40, k == 1 ? 0 : 100, 5);
        out.enroll(2, 20, 100, 5);
        out.enroll(3, 20, 100, 5);
        out.sue(6, 1, 1, 1, 5);
        out.sue(6, 7, 0, 1, 5);
        C.due("7: tried", out.court(), 2);
        C.citizen("1: OUT", out, 1, 6, 2);
        C.due("5: who is OUT is no JUROR", out.jury(2), 2);
        Kleroterion x = parties();
        x.sue(0, 4, 0, 1, 5);
        x.court();
        C.due("5: not the accuser", x.jury(0), 0);
        x.pass(1);
        x.sue(3, 2, 0, 1, 5);
        x.court();
        C.due("5: not the accused", x.jury(0), 0);
        x.pass(1);
        x.sue(3, 4, 0, 1, 5);
        x.court();
        C.due("5: all three", x.jury(0), 3);
        C.due("24: the TRIBES of it", x.jury(2), 1);
    }

    /** r ROWS of each TRIBE: 1 (private), or 2; of three ROWS in TRIBE 0, two in 1, one in 2, none in 3. */
    private static void rows() {
        int[] due = {9, 15, 15};
        for (int kind = 0; kind <= 1; kind++) {
            Kleroterion x = new Kleroterion();
            for (int k = 0; k < 18; k++) x.enroll(k < 9 ? 0 : k < 15 ? 1 : 2, 40, 0, 5);
            x.enroll(3, 20, 100, 5);
            x.enroll(7, 20, 100, 5);
            x.sue(18, 19, kind, 10, 5);
            C.due("7: tried", x.court(), 1);
            C.due("5: JURORS by KIND " + kind, x.jury(0), due[kind]);
            C.due("24: all for it", x.jury(1), due[kind]);
            C.due("24: TRIBES", x.jury(2), 7);
            C.due("5: it costs 1 for each", x.money(8), due[kind]);
        }
    }

    /** If the TREASURY has not so much, it pays what it has, and UNREST is 1 more. */
    private static void jurorsCost() {
        for (int left = 4; left >= 0; left--) {
            Kleroterion x = parties();
            x.seat();
            x.move(0, 3, 0, 5, 300 - x.city(14) / 4 - left);
            C.due("12: PASSES", x.assembly(), 1);
            C.due("27: TREASURY", x.money(0), left);
            x.sue(3, 4, 0, 1, 5);
            x.sue(0, 4, 0, 1, 5);
            C.due("7: tried nevertheless", x.court(), 2);
            C.due("5: it pays", x.money(0), Math.max(0, left - 3));
            C.due("5: UNREST by 3 of " + left + ", none by nobody", x.city(7), left < 3 ? 1 : 0);
            C.due("7: WON", x.jury(3), 1);
            C.due("38: sound", x.isSound(), true);
        }
    }

    /** JURY: 0, 0, 0 ahead of any; later that of the latest one, with nobody too. */
    private static void juryAsked() {
        Kleroterion x = parties();
        for (int k = 0; k < 7; k++) C.due("24: ahead of any", x.jury(k), 0);
        x.sue(3, 4, 0, 1, 5);
        C.due("24: one waits", x.jury(6), 1);
        x.court();
        int[] due = {3, 3, 1, 1, 0, 0, 0};
        for (int k = 0; k < 7; k++) C.due("24: " + k, x.jury(k), due[k]);
        x.pass(1);
        x.court();
        for (int k = 0; k < 7; k++) C.due("24: without any suit as before, " + k, x.jury(k), due[k]);
        x.enroll(0, 40, 0, 15);
        x.appeal(7);
        int[] then = {3, 0, 1, 1, 0, 0, 0};
        for (int k = 0; k < 7; k++) C.due("24: of an APPEAL, " + k, x.jury(k), then[k]);
        for (int what : new int[] {-1, 7, FAR[0], FAR[1]}) C.noArgument("24: what " + what, x, () -> x.jury(what));
    }

    /** The first and the last AMOUNT and PROOF are taken, what is next to them is refused; KINDS 0, 1, 3. */
    private static void sueRanges() {
        int[][] ranges = {{1, 200}, {0, 15}};
        for (int argument = 0; argument < 2; argument++) {
            for (int end = 0; end < 2; end++) {
                int[] w = {10, 5};
                w[argument] = ranges[argument][end];
                Kleroterion x = parties();
                C.due("19: taken", x.sue(3, 4, 0, w[0], w[1]), 0);
                C.due("23: " + w[argument], x.ofSuit(0, 3 + argument), w[argument]);
                int[] v = w.clone();
                v[argument] += end == 0 ? -1 : 1;
                C.noArgument("19: " + v[argument], x, () -> x.sue(3, 4, 0, v[0], v[1]));
                int[] f = w.clone();
                f[argument] = FAR[end];
                C.noArgument("19: " + f[argument], x, () -> x.sue(3, 4, 1, f[0], f[1]));
            }
        }
        Kleroterion x = parties();
        for (int kind : new int[] {-1, 2, 4, FAR[0], FAR[1]}) C.noArgument("19: KIND " + kind, x, () -> x.sue(3, 4, kind, 10, 5));
        C.noArgument("19: both the same", x, () -> x.sue(3, 3, 0, 10, 5));
        for (int who : new int[] {-1, 7, FAR[0], FAR[1]}) {
            C.noIndex("19: accuser " + who + ", ahead of a wrong AMOUNT", x, () -> x.sue(who, 4, 0, 0, 5));
            C.noIndex("19: accused " + who + ", ahead of a wrong KIND", x, () -> x.sue(3, who, 2, 1, 5));
            C.noIndex("19: both are " + who, x, () -> x.sue(who, who, 0, 1, 5));
        }
        for (int what : new int[] {-1, 7, FAR[0], FAR[1]}) {
            C.noIndex("23: no such suit, ahead of " + what, x, () -> x.ofSuit(0, what));
            x.sue(3, 4, 0, 1, 5);
            C.noArgument("23: what " + what, x, () -> x.ofSuit(0, what));
            if (x.city(0) < 4) x.pass(1);
            x.court();
        }
        for (int suit : new int[] {-1, FAR[0], FAR[1]}) C.noIndex("23: suit " + suit, x, () -> x.ofSuit(suit, 0));
    }

    /** SUITS: at most 8 that wait; private, public and those against a DECREE together. */
    private static void eight() {
        Kleroterion x = parties();
        x.seat();
        x.move(3, 0, 0, 5, 0);
        x.move(3, 0, 1, 5, 0);
        C.due("12: PASS", x.assembly(), 3);
        for (int k = 0; k < 7; k++) C.due("19: numbered from 0", x.sue(3, 4, k % 2, 1, 5), k);
        C.due("20: the eighth one", x.challenge(4, 0, 1), 7);
        C.due("24: eight wait", x.jury(6), 8);
        C.noState("20: there are 8", x, () -> x.challenge(4, 1, 1));
        C.noState("19: there are 8", x, () -> x.sue(3, 4, 0, 1, 5));
        C.noArgument("19: ahead of that, a wrong AMOUNT", x, () -> x.sue(3, 4, 0, 0, 5));
        C.noArgument("20: ahead of that, a wrong AMOUNT", x, () -> x.challenge(4, 1, 0));
        C.noArgument("20: ahead of that, its mover", x, () -> x.challenge(3, 1, 1));
        C.due("7: four private ones and two public ones", x.court(), 5);
        C.due("24: three wait", x.jury(6), 3);
        C.due("7: numbered anew", x.ofSuit(0, 2), 1);
        C.due("7: numbered anew", x.ofSuit(2, 2), 2);
        C.due("20: now", x.challenge(4, 1, 1), 3);
    }

    /** The accuser is FULL and not BARRED; the accused may WAIT, be OUT or BARRED, but not be DEAD, STRUCK, EXILED. */
    private static void sueStates() {
        Kleroterion x = parties();
        x.enroll(0, 40, 0, 15);
        x.enroll(0, 40, 0, 15);
        x.enroll(3, 70, 0, 5);
        x.appeal(8);
        x.sue(3, 4, 1, 200, 5);
        x.sue(3, 5, 1, 1, 15);
        C.due("7: tried", x.court(), 2);
        C.citizen("1: OUT", x, 4, 6, 2);
        C.noState("19: BARRED", x, () -> x.sue(3, 5, 0, 1, 5));
        C.noState("19: OUT", x, () -> x.sue(4, 5, 0, 1, 5));
        C.noState("19: WAITS", x, () -> x.sue(7, 5, 0, 1, 5));
        C.noState("19: STRUCK", x, () -> x.sue(8, 5, 0, 1, 5));
        C.noState("19: the accused is STRUCK", x, () -> x.sue(5, 8, 0, 1, 5));
        C.due("19: the accused is BARRED", x.sue(5, 3, 0, 1, 5), 0);
        C.due("19: the accused is OUT", x.sue(5, 4, 0, 1, 5), 1);
        C.due("19: the accused WAITS", x.sue(5, 7, 0, 1, 5), 2);
        x.pass(39);
        C.noState("1: BARRED on DAY 39", x, () -> x.sue(3, 5, 0, 1, 5));
        x.pass(1);
        C.due("1: not on DAY 40", x.sue(3, 5, 0, 1, 5), 3);
        for (int k = 0; k < 4; k++) x.pass(40);
        C.noState("19: the accuser is DEAD", x, () -> x.sue(9, 5, 0, 1, 5));
        C.noState("19: the accused is DEAD", x, () -> x.sue(5, 9, 0, 1, 5));
        Kleroterion y = exiled(false);
        C.noState("19: the accuser is EXILED", y, () -> y.sue(3, 4, 0, 1, 5));
        C.noState("19: the accused is EXILED", y, () -> y.sue(4, 3, 0, 1, 5));
    }

    /** On DAY 20, 3 (VIEW 15) is sent away by sherds; with suits of it ahead of that, if they are wanted. */
    private static Kleroterion exiled(boolean isSuing) {
        Kleroterion x = Checks.three();
        x.enroll(1, 40, 100, 15);
        for (int deme : new int[] {2, 3, 5, 6, 7}) x.enroll(deme, 20, 100, 5);
        x.pass(20);
        if (isSuing) {
            x.sue(3, 4, 1, 1, 5);
            x.sue(4, 3, 0, 200, 5);
            x.sue(4, 5, 0, 10, 5);
        }
        C.due("11: PRESENT are 1, 2, 3, 5, 6, 7", x.sherds(), 3);
        return x;
    }

    /** WATER: a private one takes 4 + AMOUNT / 10, others 20. */
    private static void waterOfSuits() {
        int[][] due = {{1, 4}, {9, 4}, {10, 5}, {19, 5}, {50, 9}, {199, 23}, {200, 24}};
        for (int[] d : due) {
            Kleroterion x = parties();
            x.sue(3, 4, 0, d[0], 5);
            C.due("7: WATER by " + d[0], x.ofSuit(0, 5), d[1]);
            x.sue(3, 4, 1, d[0], 5);
            C.due("7: WATER of a public one", x.ofSuit(1, 5), 20);
        }
    }

    /** 24, 24 and 12 are just 60; 24, 24 and 13 are more; what is behind that waits, though it would take less. */
    private static void sixty() {
        for (int third = 89; third <= 90; third++) {
            Kleroterion x = parties();
            x.sue(3, 4, 0, 200, 5);
            x.sue(3, 4, 0, 200, 5);
            x.sue(3, 4, 0, third, 5);
            x.sue(3, 4, 0, 1, 5);
            C.due("7: tried with a third one of " + third, x.court(), third == 89 ? 3 : 2);
            C.due("7: those behind it wait", x.jury(6), third == 89 ? 1 : 2);
            C.due("7: the first one then", x.ofSuit(0, 3), third == 89 ? 1 : 90);
            C.noState("22: once a DAY", x, x::court);
            x.pass(1);
            C.due("7: 60 on each DAY", x.court(), third == 89 ? 1 : 2);
        }
    }

    /** What is dropped takes no WATER, with none left too; behind the one that ends the COURT nothing is dropped. */
    private static void droppedWithoutWater() {
        Kleroterion x = parties();
        x.enroll(0, 20, 0, 15);
        for (int k = 0; k < 3; k++) x.sue(3, 4, 1, 1, 5);
        x.sue(3, 7, 1, 1, 5);
        x.sue(3, 4, 0, 1, 5);
        x.sue(3, 7, 0, 1, 5);
        C.due("1: STRUCK", x.appeal(7), false);
        C.due("7: three", x.court(), 3);
        C.due("24: dropped", x.jury(5), 1);
        C.due("24: two wait", x.jury(6), 2);
        C.due("7: the one that took more than was left", x.ofSuit(0, 1), 4);
        C.due("7: the one behind it", x.ofSuit(1, 1), 7);
        x.pass(1);
        C.due("7: then", x.court(), 1);
        C.due("24: dropped", x.jury(5), 2);
        C.due("24: WON", x.jury(3), 4);
    }

    /** One whose accuser or accused is EXILED, DEAD, STRUCK is dropped; who WAITS or is OUT is tried. */
    private static void dropped() {
        Kleroterion x = exiled(true);
        C.due("7: one is tried", x.court(), 1);
        C.due("24: accuser and accused: dropped", x.jury(5), 2);
        C.citizen("7: nobody paid for these", x, 3, 4, 100);
        C.citizen("7: by the other one", x, 4, 4, 110);
        Kleroterion old = parties();
        old.enroll(5, 70, 100, 5);
        for (int k = 0; k < 4; k++) old.pass(40);
        old.pass(39);
        old.sue(7, 4, 0, 10, 5);
        old.sue(3, 7, 1, 10, 5);
        old.pass(1);
        C.citizen("0: DEAD", old, 7, 6, 4);
        C.due("7: nothing is tried", old.court(), 0);
        C.due("24: DEAD: dropped", old.jury(5), 2);
        Kleroterion struck = Checks.three();
        struck.enroll(1, 20, 100, 5);
        for (int view : new int[] {8, 8, 13, 3, 3, 3}) struck.enroll(2, 20, 100, view);
        C.due("1: all are FULL", struck.city(6), 10);
        struck.sue(6, 3, 0, 10, 5);
        struck.sue(3, 4, 0, 10, 5);
        C.due("4: one WAITS", struck.purge(2), 1);
        C.due("5: the VIEW 13 is STRUCK", struck.appeal(6), false);
        C.due("7: tried", struck.court(), 1);
        C.due("24: an accuser who is STRUCK: dropped", struck.jury(5), 1);
        Kleroterion waits = Checks.three();
        waits.enroll(1, 20, 100, 5);
        for (int view : new int[] {8, 8, 13, 3, 3, 3}) waits.enroll(2, 20, 100, view);
        waits.sue(6, 3, 0, 10, 5);
        waits.sue(3, 6, 0, 5, 5);
        waits.purge(2);
        C.due("7: one who WAITS accuses and is accused", waits.court(), 2);
        C.citizen("7: WEALTH", waits, 6, 4, 105);
        Kleroterion out = parties();
        out.sue(3, 4, 1, 150, 5);
        out.sue(4, 3, 0, 10, 5);
        out.sue(3, 4, 0, 3, 5);
        C.due("7: one who is OUT accuses and is accused", out.court(), 3);
        C.citizen("7: WEALTH", out, 4, 4, 7);
        C.citizen("1: OUT", out, 4, 6, 2);
    }

    /** With more than half of it the suit is WON: three of six are half, six of nine more. */
    private static void half() {
        for (int kind = 0; kind <= 1; kind++) {
            for (int third = 0; third <= 1; third++) {
                Kleroterion x = Checks.three();
                for (int k = 0; k < 3; k++) x.enroll(1, 40, 0, 15);
                for (int k = 0; k < 3 * third; k++) x.enroll(2, 40, 0, 5);
                int first = x.city(5);
                x.enroll(3, 20, 100, 5);
                x.enroll(7, 20, 100, 5);
                x.sue(first, first + 1, kind, 20, 5);
                C.due("7: tried", x.court(), 1);
                C.due("7: WON", x.jury(3), third);
                C.due("7: LOST", x.jury(4), 1 - third);
                C.citizen("7: no FINE for half", x, first, 4, third == 1 && kind == 0 ? 120 : 100);
                C.citizen("7: not BARRED for half", x, first, 8, 0);
                C.citizen("7: the accused", x, first + 1, 4, third == 1 ? 80 : 100);
            }
        }
    }

    /** (0) The accused pays AMOUNT to the accuser, as far as WEALTH goes; no DEBT by that. */
    private static void privately() {
        for (int amount = 99; amount <= 101; amount++) {
            Kleroterion x = parties();
            x.sue(3, 4, 0, amount, 5);
            x.court();
            C.citizen("7: the accuser", x, 3, 4, 100 + Math.min(100, amount));
            C.citizen("7: the accused", x, 4, 4, 100 - Math.min(100, amount));
            C.citizen("7: no DEBT", x, 4, 7, 0);
            C.citizen("7: FULL", x, 4, 6, 1);
            C.due("27: nothing comes in", x.money(7), 0);
        }
    }

    /** (1) Of VIEWS 5 and 8, three each: with a PROOF of 6 all differ by 2 or less, with 5 just half of them. */
    private static void strict() {
        int[][] due = {{6, 200, 200}, {6, 1, 1}, {7, 5, 5}, {5, 200, 50}, {8, 200, 50}, {5, 1, 1}, {5, 4, 1}, {5, 5, 2}, {3, 8, 2}, {10, 9, 3}};
        for (int[] d : due) {
            Kleroterion x = Checks.three();
            for (int k = 0; k < 3; k++) x.enroll(1, 40, 0, 8);
            x.enroll(2, 20, 100, 5);
            x.enroll(3, 20, 300, 5);
            x.sue(6, 7, 1, d[1], d[0]);
            x.court();
            C.due("7: WON", x.jury(3), 1);
            C.due("7: of six", x.jury(1), 6);
            C.citizen("7: a FINE with a PROOF of " + d[0] + " and an AMOUNT of " + d[1], x, 7, 4, 300 - d[2]);
            C.due("27: it came in", x.money(7), d[2]);
        }
        int[][] three = {{5, 5, 8, 100}, {5, 8, 5, 100}, {8, 5, 5, 100}, {5, 8, 8, 25}, {8, 5, 8, 25}, {8, 8, 5, 25}};
        for (int[] d : three) {
            Kleroterion x = new Kleroterion();
            for (int k = 0; k < 3; k++) x.enroll(0, 40, 100, d[k]);
            x.enroll(1, 20, 100, 5);
            x.enroll(2, 20, 300, 5);
            x.sue(3, 4, 1, 100, 5);
            x.court();
            C.due("7: of three", x.jury(1), 3);
            C.citizen("7: two of three are near, or one", x, 4, 4, 300 - d[3]);
        }
        int[][] nine = {{5, 100, 100}, {3, 100, 100}, {2, 100, 25}, {8, 100, 25}};
        for (int[] d : nine) {
            Kleroterion x = Checks.three();
            for (int k = 0; k < 3; k++) x.enroll(1, 40, 0, 5);
            for (int k = 0; k < 3; k++) x.enroll(2, 40, 0, 9);
            x.enroll(3, 20, 100, 5);
            x.enroll(7, 20, 300, 5);
            x.sue(9, 10, 1, d[1], d[0]);
            x.court();
            C.citizen("7: six of nine, or less, by a PROOF of " + d[0], x, 10, 4, 300 - d[2]);
        }
    }

    /** LOST: if 5 times those for the accuser are less than the JURY, a FINE of 10, and BARRED up to DAY + 40. */
    private static void lost() {
        for (int wealth = 9; wealth <= 11; wealth++) {
            Kleroterion x = Checks.three();
            x.enroll(1, 20, wealth, 5);
            x.enroll(2, 20, 100, 5);
            x.pass(7);
            x.sue(3, 4, 1, 1, 15);
            x.court();
            C.due("7: LOST", x.jury(4), 1);
            C.citizen("7: a FINE of 10", x, 3, 4, Math.max(0, wealth - 10));
            C.citizen("1: STATUS", x, 3, 6, wealth < 10 ? 2 : 1);
            C.citizen("1: DEBT", x, 3, 7, wealth < 10 ? 1 : 0);
            C.citizen("7: BARRED up to", x, 3, 8, 47);
            C.citizen("7: the accused is not", x, 4, 8, 0);
        }
        // 2 ROWS in TRIBES 0 and 1, one in 2: of 15 three are just a fifth; of 18 they are less
        for (int more = 0; more <= 1; more++) {
            Kleroterion x = new Kleroterion();
            for (int k = 0; k < 12; k++) x.enroll(k / 6, 40, 100, 5);
            for (int k = 0; k < 3; k++) x.enroll(2, 40, 100, 15);
            for (int k = 0; k < 3 * more; k++) x.enroll(3, 40, 100, 5);
            int first = x.city(5);
            x.enroll(7, 20, 100, 5);
            x.enroll(7, 20, 100, 5);
            x.sue(first, first + 1, 1, 1, 15);
            x.court();
            C.due("24: the JURY", x.jury(0), 15 + 3 * more);
            C.due("24: for the accuser", x.jury(1), 3);
            C.citizen("7: a FINE of 10", x, first, 4, more == 0 ? 100 : 90);
            C.citizen("7: BARRED", x, first, 8, more == 0 ? 0 : 40);
        }
        Kleroterion none = parties();
        none.sue(0, 4, 1, 1, 5);
        none.court();
        C.due("5: nobody is in the JURY", none.jury(0), 0);
        C.due("7: LOST", none.jury(4), 1);
        C.citizen("7: 5 times none is not less than none", none, 0, 4, 100);
        C.citizen("7: nor BARRED", none, 0, 8, 0);
        Kleroterion privately = parties();
        privately.sue(3, 4, 0, 1, 15);
        privately.court();
        C.due("7: LOST", privately.jury(4), 1);
        C.citizen("7: a private one costs nothing", privately, 3, 4, 100);
        C.citizen("7: nor BARRED", privately, 3, 8, 0);
    }

    /** (2) The DECREE is VOID, its mover has a FINE of AMOUNT / 2, and is BARRED up to DAY + 40. */
    private static void againstDecree() {
        for (int amount : new int[] {1, 2, 3, 199, 200}) {
            Kleroterion x = parties();
            x.seat();
            x.move(3, 0, 0, 0, 0);
            x.assembly();
            C.due("20: the PROOF is 8", x.challenge(4, 0, amount), 0);
            C.due("7: tried", x.court(), 1);
            C.due("7: WON", x.jury(3), 1);
            C.due("3: VOID", x.ofDecree(0, 4), 0);
            C.citizen("7: half of " + amount, x, 3, 4, Math.max(0, 100 - amount / 2));
            C.citizen("7: BARRED", x, 3, 8, 40);
            C.citizen("1: FULL by a WEALTH of just 100", x, 3, 6, 1);
            C.due("36: it is kept", x.city(12), 1);
        }
        Kleroterion y = parties();
        y.seat();
        y.move(3, 0, 0, 3, 0);
        y.assembly();
        C.due("20: the PROOF is 11", y.challenge(4, 0, 200), 0);
        y.court();
        C.due("7: LOST", y.jury(4), 1);
        C.citizen("7: the accuser has a FINE", y, 4, 4, 90);
        C.citizen("7: and is BARRED", y, 4, 8, 40);
        C.citizen("7: its mover not", y, 3, 8, 0);
        C.due("3: it HOLDS", y.ofDecree(0, 4), 1);
    }

    /** The PROOF is the LEAN of the LAW on its TOPIC as one sues; without one (that of the DECREE + 8) modulo 16. */
    private static void proofs() {
        int[][] due = {{0, 8}, {7, 15}, {8, 0}, {10, 2}};
        for (int[] d : due) {
            Kleroterion x = parties();
            x.seat();
            x.move(3, 0, 0, d[0], 0);
            x.assembly();
            x.challenge(4, 0, 1);
            C.due("20: PROOF against " + d[0], x.ofSuit(0, 4), d[1]);
        }
        Kleroterion x = parties();
        x.seat();
        x.move(3, 0, 0, 5, 0);
        x.move(3, 0, 0, 5, 0);
        x.move(3, 1, 1, 9, 0);
        x.assembly();
        x.challenge(4, 0, 1);
        C.due("20: no LAW on that TOPIC", x.ofSuit(0, 4), 13);
        x.pass(1);
        x.move(3, 1, 0, 0, 0);
        x.assembly();
        C.due("3: a LAW of 0", x.law(0), 0);
        C.due("20: the PROOF stays", x.ofSuit(0, 4), 13);
        x.challenge(4, 1, 1);
        C.due("20: LAW of 0", x.ofSuit(1, 4), 0);
    }

    /** Not more than 40 DAYS old: a DECREE of DAY 1 on DAY 41, not on DAY 42. */
    private static void fortyDays() {
        Kleroterion x = parties();
        x.seat();
        x.pass(1);
        x.move(3, 0, 0, 5, 0);
        x.move(3, 0, 1, 5, 0);
        C.due("12: PASS", x.assembly(), 3);
        x.pass(40);
        C.due("20: 40 DAYS old", x.challenge(4, 0, 1), 0);
        x.pass(1);
        C.noState("20: 41 DAYS old", x, () -> x.challenge(4, 1, 1));
        C.noState("20: somebody sued for it before", x, () -> x.challenge(4, 0, 1));
    }

    /** The accuser is FULL and not BARRED, its mover not DEAD, STRUCK or EXILED; the exceptions in their order. */
    private static void challengeRefused() {
        Kleroterion x = parties();
        C.noIndex("20: no DECREE", x, () -> x.challenge(4, 0, 0));
        x.enroll(0, 40, 0, 15);
        x.seat();
        x.move(3, 0, 0, 5, 0);
        x.move(6, 0, 1, 5, 0);
        C.due("12: PASS", x.assembly(), 3);
        for (int who : new int[] {-1, 8, FAR[0], FAR[1]}) C.noIndex("20: accuser " + who, x, () -> x.challenge(who, 0, 0));
        for (int decree : new int[] {-1, 2, FAR[0], FAR[1]}) C.noIndex("20: DECREE " + decree, x, () -> x.challenge(4, decree, 0));
        for (int amount : new int[] {0, 201, FAR[0], FAR[1]}) C.noArgument("20: AMOUNT " + amount, x, () -> x.challenge(4, 0, amount));
        C.noArgument("20: its mover", x, () -> x.challenge(3, 0, 1));
        C.noState("20: who WAITS", x, () -> x.challenge(7, 0, 1));
        C.noArgument("20: ahead of that, a wrong AMOUNT", x, () -> x.challenge(7, 0, 201));
        x.sue(4, 5, 1, 1, 15);
        x.sue(3, 5, 1, 200, 5);
        x.court();
        C.noState("20: who is BARRED", x, () -> x.challenge(4, 0, 1));
        C.noState("20: who is OUT", x, () -> x.challenge(5, 0, 1));
        C.due("20: AMOUNT 200", x.challenge(6, 0, 200), 0);
        C.noState("20: sued for, by another one too", x, () -> x.challenge(0, 0, 1));
        C.due("20: AMOUNT 1", x.challenge(3, 1, 1), 1);
        Kleroterion y = Checks.three();
        y.enroll(1, 40, 100, 15);
        for (int deme : new int[] {2, 3, 5, 6, 7}) y.enroll(deme, 20, 100, 5);
        y.seat();
        Checks.tillChair(y);
        y.pass(20 - y.city(0));
        if (y.council(2) == -1) Checks.tillChair(y);
        C.due("11: PRYTANY 2 or 3", y.city(2) >= 2, true);
        y.move(3, 0, 0, 5, 0);
        y.move(3, 0, 1, 5, 0);
        C.due("12: PASS", y.assembly(), 3);
        y.challenge(4, 0, 1);
        C.due("11: its mover is EXILED", y.sherds(), 3);
        C.noState("20: its mover is EXILED", y, () -> y.challenge(4, 1, 1));
        C.due("7: nothing is tried", y.court(), 0);
        C.due("7: dropped", y.jury(5), 1);
        C.due("3: no suit waits, so it HOLDS", y.ofDecree(0, 4), 1);
        C.noState("20: dropped or not, it was sued for", y, () -> y.challenge(4, 0, 1));
    }

    /** (2) whose DECREE is kept no more: twelve later ones; till then the suit waits, and is tried. */
    private static void decreeGone() {
        for (int later = 11; later <= 12; later++) {
            Kleroterion x = parties();
            x.seat();
            x.move(3, 0, 0, 5, 0);
            x.assembly();
            x.challenge(4, 0, 10);
            x.pass(1);
            for (int k = 0; k < 8; k++) x.move(3, 0, k, 5, 0);
            C.due("12: eight", x.assembly(), 255);
            x.pass(1);
            for (int k = 8; k < later; k++) x.move(3, 0, k - 8, 5, 0);
            x.assembly();
            C.due("7: tried with " + later + " later ones", x.court(), later == 11 ? 1 : 0);
            C.due("7: dropped with " + later + " later ones", x.jury(5), later == 11 ? 0 : 1);
            C.citizen("7: no FINE", x, 3, 4, 100);
        }
    }

    /** (3) WON: strict or not, the account is owed no more; LOST: it is owed still. */
    private static void account() {
        int[][] due = {{5, 100}, {3, 100}, {8, 25}, {15, 0}};
        for (int[] d : due) {
            Kleroterion x = parties();
            x.enroll(5, 40, 200, 5);
            x.stand(7, 0);
            x.fill(0);
            x.pass(40);
            int wealth = x.ofCitizen(7, 4);
            C.due("19: on account", x.sue(3, 7, 3, 100, d[0]), 0);
            C.due("23: WATER", x.ofSuit(0, 5), 20);
            C.due("7: tried", x.court(), 1);
            C.citizen("7: a FINE by a PROOF of " + d[0], x, 7, 4, wealth - d[1]);
            if (d[1] > 0) C.noState("7: owed no more", x, () -> x.sue(3, 7, 3, 1, 5));
            else C.due("7: owed still", x.sue(4, 7, 3, 1, 5), 0);
            C.citizen("7: LOST: BARRED", x, 3, 8, d[1] > 0 ? 0 : 80);
            if (d[1] > 0) continue;
            x.pass(1);
            x.sue(4, 7, 1, 1, 5);
            C.due("7: an account and a public one", x.court(), 2);
            C.noState("7: owed no more", x, () -> x.sue(4, 7, 3, 1, 5));
        }
        Kleroterion x = parties();
        x.enroll(5, 40, 200, 5);
        x.stand(7, 0);
        x.fill(0);
        x.pass(40);
        x.sue(3, 7, 1, 10, 5);
        x.court();
        C.due("7: a public one leaves the account", x.sue(3, 7, 3, 1, 5), 0);
    }

    /** Of those who are FULL, just 59, and not of the case, one is DRAWN (in their order). */
    private static void arbitrators() {
        boolean[] isDrawn = new boolean[3];
        for (int k = 0; k < 8; k++) {
            Kleroterion x = new Kleroterion();
            for (int s = 0; s < k; s++) x.seat();
            // PROOF 10: only the VIEW 15 AGREES; the VIEWS of those of the case are odd
            for (int c = 0; c < 3; c++) x.enroll(c, 59, 0, c == 1 ? 15 : 1);
            x.enroll(3, 58, 0, 15);
            x.enroll(4, 60, 0, 15);
            x.enroll(5, 20, 50, 4);
            x.enroll(6, 20, 50, 5);
            x.sue(5, 6, 0, 10, 10);
            int who = new Checks.Luck(x).draw(3);
            isDrawn[who] = true;
            C.due("6: found by " + who, x.arbitrate(0), who == 1 ? 0 : 2);
            C.due("6: one DRAW", x.city(4), 3 * k + 1);
        }
        C.due("6: each of the three comes", isDrawn[0] && isDrawn[1] && isDrawn[2], true);
        Kleroterion behindJury = new Kleroterion();
        for (int k = 0; k < 3; k++) behindJury.enroll(3, 40, 100, 5);
        for (int k = 0; k < 3; k++) behindJury.enroll(k, k == 2 ? 59 : 20, 100, 5);
        behindJury.sue(3, 4, 0, 1, 5);
        C.due("7: tried by those of TRIBE 3", behindJury.court(), 1);
        behindJury.sue(3, 5, 0, 1, 5);
        C.due("6: nobody of 59 but the accused, whoever was JUROR", behindJury.arbitrate(0), -1);
        for (int who = 0; who < 2; who++) {
            Kleroterion x = new Kleroterion();
            x.enroll(0, 59, 100, 4);
            x.enroll(1, 20, 100, 4);
            x.sue(who, 1 - who, 0, 10, 4);
            C.due("6: nobody but one of the case", x.arbitrate(0), -1);
            C.due("6: nothing is DRAWN", x.city(4), 0);
            C.due("23: it was not ARBITRATED", x.ofSuit(0, 6), 0);
            x.enroll(2, 58, 0, 4);
            x.enroll(3, 60, 0, 4);
            C.due("6: nor one of 58 or 60", x.arbitrate(0), -1);
            x.enroll(0, 59, 0, 15);
            C.citizen("1: WAITS", x, 4, 6, 0);
            C.due("6: nor one who WAITS", x.arbitrate(0), -1);
            x.pass(40);
            C.due("6: 59 as the YEAR begins", x.arbitrate(0), 1);
        }
    }

    /** FULL ones arbitrate: not one of 59 who is OUT. */
    private static void arbitratorIsOut() {
        Kleroterion x = parties();
        x.enroll(5, 59, 0, 5);
        x.sue(3, 7, 1, 1, 5);
        x.court();
        C.citizen("1: OUT", x, 7, 6, 2);
        x.sue(3, 4, 0, 1, 5);
        C.due("6: nobody", x.arbitrate(0), -1);
        x.enroll(6, 59, 0, 5);
        C.due("6: somebody", x.arbitrate(0), 0);
    }

    /** Each: who AGREES or not, the VIEW of the one against whom it is found even or odd, WEALTH enough or not. */
    private static void findings() {
        for (int proof : new int[] {10, 11}) {
            for (int accuser = 4; accuser <= 5; accuser++) {
                for (int accused = 4; accused <= 5; accused++) {
                    for (int wealth : new int[] {49, 50, 51}) {
                        Kleroterion x = new Kleroterion();
                        x.enroll(0, 59, 0, 5);
                        x.enroll(1, 20, 7, accuser);
                        x.enroll(2, 20, wealth, accused);
                        x.sue(1, 2, 0, 50, proof);
                        boolean isFor = proof == 10;
                        boolean isDone = (isFor ? accused : accuser) == 4;
                        C.due("6: PROOF " + proof + ", VIEWS " + accuser + " and " + accused, x.arbitrate(0), !isDone ? 0 : isFor ? 1 : 2);
                        int paid = isDone && isFor ? Math.min(50, wealth) : 0;
                        C.citizen("6: the accuser", x, 1, 4, 7 + paid);
                        C.citizen("6: the accused", x, 2, 4, wealth - paid);
                        C.citizen("6: no DEBT", x, 2, 7, 0);
                        C.due("6: waits", x.jury(6), isDone ? 0 : 1);
                        for (int k = 0; k < 6; k++) C.due("6: no JURY, nothing WON, LOST or dropped", x.jury(k), 0);
                        if (isDone) {
                            C.noIndex("21: it waits no more", x, () -> x.arbitrate(0));
                        } else {
                            C.due("23: ARBITRATED", x.ofSuit(0, 6), 1);
                            C.noState("6: once", x, () -> x.arbitrate(0));
                            C.due("6: it goes to court", x.court(), 1);
                        }
                    }
                }
            }
        }
    }

    /** A private suit with an AMOUNT of 50 or less; the exceptions. */
    private static void arbitrateRefused() {
        Kleroterion x = parties();
        C.noIndex("21: no suit", x, () -> x.arbitrate(0));
        x.enroll(5, 59, 0, 5);
        x.enroll(6, 40, 100, 5);
        x.stand(8, 0);
        x.fill(0);
        x.seat();
        Checks.tillChair(x);
        x.move(3, 0, 0, 5, 0);
        x.assembly();
        x.pass(40 - x.city(0));
        x.enroll(7, 59, 0, 5);
        x.sue(3, 4, 0, 51, 5);
        x.sue(3, 4, 0, 50, 5);
        x.sue(3, 4, 1, 50, 5);
        x.sue(3, 8, 3, 50, 5);
        x.challenge(4, 0, 50);
        C.noState("6: 51", x, () -> x.arbitrate(0));
        C.noState("6: public", x, () -> x.arbitrate(2));
        C.noState("6: for an account", x, () -> x.arbitrate(3));
        C.noState("6: against a DECREE", x, () -> x.arbitrate(4));
        for (int suit : new int[] {-1, 5, FAR[0], FAR[1]}) C.noIndex("21: suit " + suit, x, () -> x.arbitrate(suit));
        C.due("6: 50", x.arbitrate(1), 0);
        C.noState("6: once", x, () -> x.arbitrate(1));
    }

    /** The one that is done waits no more; those behind it are numbered anew. Without the people's rule too. */
    private static void arbitratedAmongOthers() {
        Kleroterion x = Checks.overthrown();
        x.enroll(1, 59, 0, 5);
        x.enroll(2, 20, 100, 4);
        x.sue(0, 4, 0, 60, 5);
        x.sue(0, 4, 0, 20, 5);
        x.sue(1, 4, 1, 70, 5);
        C.due("6: done", x.arbitrate(1), 1);
        C.due("24: two wait", x.jury(6), 2);
        C.due("7: the first one", x.ofSuit(0, 3), 60);
        C.due("7: the next one", x.ofSuit(1, 3), 70);
        C.noState("22: the people do not rule", x, x::court);
    }

    public static void main(String[] args) {
        jurors();
        rows();
        jurorsCost();
        juryAsked();
        sueRanges();
        eight();
        sueStates();
        waterOfSuits();
        sixty();
        droppedWithoutWater();
        dropped();
        half();
        privately();
        strict();
        lost();
        againstDecree();
        proofs();
        fortyDays();
        challengeRefused();
        decreeGone();
        account();
        arbitrators();
        arbitratorIsOut();
        findings();
        arbitrateRefused();
        arbitratedAmongOthers();
        C.end();
    }
}
