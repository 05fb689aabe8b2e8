/** Section 1 and promises 2 to 7, sentence by sentence: enroll, found, purge, appeal, FINES, pay, what is lost. */
public final class EdgesCitizensTest {
    private static final Checks C = new Checks();
    private static final int[] FAR = {Integer.MIN_VALUE, Integer.MAX_VALUE};

    /** The first and the last value of each range is taken, what is next to it is refused. */
    private static void enrollRanges() {
        int[][] ranges = {{0, 7}, {18, 70}, {0, 300}, {0, 15}};
        int[] asked = {0, 2, 4, 3};
        for (int argument = 0; argument < 4; argument++) {
            for (int end = 0; end < 2; end++) {
                int[] w = {3, 30, 50, 7};
                w[argument] = ranges[argument][end];
                Kleroterion x = new Kleroterion();
                C.due("2: the number", x.enroll(w[0], w[1], w[2], w[3]), 0);
                C.citizen("2: " + w[argument], x, 0, asked[argument], w[argument]);
                C.citizen("1: the TRIBE", x, 0, 1, w[0] % 4);
                C.citizen("1: no DEBT at first", x, 0, 7, 0);
                C.citizen("1: not BARRED at first", x, 0, 8, 0);
                int[] v = w.clone();
                v[argument] += end == 0 ? -1 : 1;
                C.noArgument("2: " + v[argument], x, () -> x.enroll(v[0], v[1], v[2], v[3]));
                int[] f = w.clone();
                f[argument] = FAR[end];
                C.noArgument("2: " + f[argument], x, () -> x.enroll(f[0], f[1], f[2], f[3]));
            }
        }
    }

    /** CITIZENS: at most 40, numbered from 0. */
    private static void forty() {
        Kleroterion x = new Kleroterion();
        for (int k = 0; k < 40; k++) C.due("1: numbered from 0", x.enroll(k % 8, 40, 0, 5), k);
        C.noState("2: a 41st one", x, () -> x.enroll(0, 40, 0, 5));
        C.noArgument("2: ahead of that, a wrong DEME", x, () -> x.enroll(8, 40, 0, 5));
        C.noArgument("2: ahead of that, a wrong VIEW", x, () -> x.enroll(0, 40, 0, 16));
        C.noState("3: one more", x, () -> x.found(1, 0));
        C.noArgument("3: ahead of that, nobody", x, () -> x.found(0, 0));
        C.noArgument("3: ahead of that, a wrong seed", x, () -> x.found(1, 100));
        C.due("1: there are 40", x.city(5), 40);
    }

    /** Each STATUS counts to the 40: those who are DEAD, STRUCK or WAIT too. */
    private static void fortyOfAnyStatus() {
        Kleroterion x = new Kleroterion();
        x.found(38, 0);
        C.due("1: one WAITS", x.enroll(0, 40, 0, 15), 38);
        C.citizen("1: STATUS", x, 38, 6, 0);
        x.appeal(38);
        x.enroll(0, 40, 0, 15);
        C.noState("2: there are 40", x, () -> x.enroll(0, 40, 0, 5));
    }

    private static void found() {
        Kleroterion x = new Kleroterion();
        C.due("3: 40 at once", x.found(40, 99), 40);
        for (int k = 0; k < 40; k++) {
            int[] due = {k % 8, k % 4, 20 + (7 * k + 99) % 45, (5 * k + 99) % 16, (31 * k + 11 * 99) % 150};
            for (int what = 0; what < 5; what++) C.citizen("3: the k-th one", x, k, what, due[what]);
            C.citizen("3: FULL without votes", x, k, 6, 1);
        }
        Kleroterion y = new Kleroterion();
        y.enroll(0, 40, 0, 8);
        C.due("3: those who were there count", y.found(39, 0), 40);
        C.citizen("3: DEME 0 again, VIEW 0", y, 1, 0, 0);
        C.citizen("3: DEME 0 again, VIEW 0", y, 1, 3, 0);
        C.citizen("3: without votes", y, 1, 6, 1);
        Kleroterion z = new Kleroterion();
        z.found(10, 0);
        C.due("3: once more, one", z.found(1, 44), 11);
        C.citizen("3: DEME 0, not 2", z, 10, 0, 0);
        C.citizen("3: AGE 20 + 44", z, 10, 2, 64);
        C.due("3: again", z.found(1, 45), 12);
        C.citizen("3: AGE 20 + 45 modulo 45", z, 11, 2, 20);
        C.noState("3: 12 and 29", z, () -> z.found(29, 0));
        C.due("3: 12 and 28", z.found(28, 0), 40);
        for (int far : FAR) C.noArgument("3: many", z, () -> z.found(far, 0));
        for (int far : FAR) C.noArgument("3: seed", z, () -> z.found(1, far));
    }

    /** With none of the FULL ones of the DEME, or if more than half AGREE, FULL, otherwise WAITS. */
    private static void votes() {
        Kleroterion x = new Kleroterion();
        x.enroll(2, 40, 0, 5);
        x.enroll(2, 40, 0, 10);
        C.citizen("1: one of one AGREES", x, 1, 6, 1);
        x.enroll(2, 40, 0, 15);
        C.citizen("1: one of two is half", x, 2, 6, 0);
        x.enroll(2, 40, 0, 0);
        C.citizen("1: who WAITS has no vote: one of two", x, 3, 6, 0);
        x.enroll(2, 40, 0, 8);
        C.citizen("1: two of two", x, 4, 6, 1);
        x.enroll(2, 40, 0, 13);
        C.citizen("1: two of three", x, 5, 6, 1);
        x.enroll(6, 40, 0, 0);
        C.citizen("1: another DEME of that TRIBE has no vote here", x, 6, 6, 1);
    }

    /** A city with the three who judge (VIEW 5); 3 sues, 4 to 6 (DEMES 2) are sued, with the WEALTH that is told. */
    private static Kleroterion sued(int... wealth) {
        Kleroterion x = Checks.three();
        x.enroll(1, 20, 100, 5);
        for (int w : wealth) x.enroll(2, 20, w, 5);
        return x;
    }

    private static void fine(Kleroterion x, int who, int amount) {
        x.sue(3, who, 1, amount, 5);
        int won = x.jury(3);
        C.due("7: tried", x.court(), 1);
        C.due("7: WON", x.jury(3), won + 1);
    }

    /** With none of the FULL ones: a DEME whose only one is OUT has no votes. */
    private static void emptyDeme() {
        Kleroterion x = sued(0);
        fine(x, 4, 1);
        C.citizen("1: OUT", x, 4, 6, 2);
        x.enroll(2, 40, 0, 15);
        C.citizen("1: nobody of the DEME is FULL", x, 5, 6, 1);
        x.enroll(2, 40, 0, 5);
        C.citizen("1: now there is one", x, 6, 6, 0);
    }

    /** WEALTH of just the FINE leaves no DEBT; one less is a DEBT of 1, and OUT. */
    private static void fines() {
        int[] wealth = {51, 50, 49, 0};
        for (int w : wealth) {
            Kleroterion x = sued(w);
            fine(x, 4, 50);
            C.citizen("1: WEALTH of " + w, x, 4, 4, w == 51 ? 1 : 0);
            C.citizen("1: DEBT", x, 4, 7, w < 50 ? 50 - w : 0);
            C.citizen("1: STATUS", x, 4, 6, w < 50 ? 2 : 1);
            C.due("1: what is paid comes in", x.money(7), Math.min(w, 50));
            C.due("27: all DEBTS", x.money(6), Math.max(0, 50 - w));
        }
    }

    /** One who is OUT can have more DEBT, one who WAITS a first one; neither changes by that. */
    private static void moreDebt() {
        Kleroterion x = sued(0);
        fine(x, 4, 50);
        x.pass(1);
        fine(x, 4, 20);
        C.citizen("1: more DEBT", x, 4, 7, 70);
        C.citizen("1: OUT still", x, 4, 6, 2);
        x.enroll(3, 20, 0, 5);
        x.enroll(3, 20, 10, 15);
        C.citizen("1: WAITS", x, 6, 6, 0);
        x.pass(1);
        fine(x, 6, 30);
        C.citizen("1: a DEBT", x, 6, 7, 20);
        C.citizen("1: WAITS still", x, 6, 6, 0);
        C.due("27: all DEBTS", x.money(6), 90);
    }

    /** WEALTH is less than the DEBT, as much, or more: by a suit that is tried behind the FINE. */
    private static void pay() {
        for (int by = 19; by <= 21; by++) {
            Kleroterion x = sued(30, 100);
            x.sue(3, 4, 1, 50, 5);
            x.sue(4, 5, 0, by, 5);
            C.due("7: tried", x.court(), 2);
            C.citizen("6: DEBT", x, 4, 7, 20);
            C.citizen("6: WEALTH", x, 4, 4, by);
            int treasury = x.money(0);
            C.due("6: PAYS", x.pay(4), Math.min(20, by));
            C.citizen("6: DEBT then", x, 4, 7, by < 20 ? 1 : 0);
            C.citizen("6: WEALTH then", x, 4, 4, by > 20 ? 1 : 0);
            C.citizen("6: STATUS then", x, 4, 6, by < 20 ? 2 : 1);
            C.due("6: into the TREASURY", x.money(0), treasury + Math.min(20, by));
            C.due("6: nothing more", x.pay(4), 0);
            C.citizen("6: STATUS stays", x, 4, 6, by < 20 ? 2 : 1);
        }
    }

    /** A DEME in which 2 of the 5 others AGREE with the VIEW 10 of 6. */
    private static Kleroterion tornDeme(int wealth) {
        Kleroterion x = sued(0, 0);
        x.enroll(2, 20, wealth, 10);
        for (int k = 0; k < 3; k++) x.enroll(2, 20, 0, 0);
        C.due("1: all are FULL", x.city(6), 10);
        return x;
    }

    /** One who WAITS PAYS too, and WAITS on. */
    private static void payOfOneWhoWaits() {
        Kleroterion x = tornDeme(30);
        x.sue(3, 6, 1, 50, 5);
        x.sue(6, 0, 0, 25, 5);
        x.sue(6, 3, 0, 25, 5);
        C.due("4: one WAITS by that", x.purge(2), 1);
        C.citizen("4: STATUS", x, 6, 6, 0);
        C.due("7: tried, the one by one of the three without a JURY", x.court(), 3);
        C.citizen("1: a DEBT", x, 6, 7, 20);
        C.citizen("7: WEALTH", x, 6, 4, 25);
        C.due("6: PAYS", x.pay(6), 20);
        C.citizen("6: no DEBT", x, 6, 7, 0);
        C.citizen("6: WAITS on", x, 6, 6, 0);
    }

    /** DEAD and STRUCK ones do not PAY; one who is EXILED owes nothing. */
    private static void whoCannotPay() {
        Kleroterion x = Checks.three();
        x.enroll(0, 70, 0, 15);
        x.enroll(0, 70, 0, 5);
        C.due("6: one who WAITS without a DEBT", x.pay(3), 0);
        x.appeal(3);
        C.noState("6: STRUCK", x, () -> x.pay(3));
        C.noIndex("6: below 0", x, () -> x.pay(-1));
        C.noIndex("6: none of that number", x, () -> x.pay(5));
        for (int far : FAR) C.noIndex("6: far", x, () -> x.pay(far));
        for (int k = 0; k < 5; k++) x.pass(40);
        C.noState("6: DEAD", x, () -> x.pay(4));
        Kleroterion y = new Kleroterion();
        y.found(8, 0);
        y.pass(20);
        C.due("11: EXILED", y.sherds(), 0);
        C.due("6: EXILED", y.pay(0), 0);
        C.citizen("6: stays so", y, 0, 6, 3);
        C.due("6: as nobody rules it, too", Checks.overthrown().pay(0), 0);
    }

    /** Less than half of the other FULL ones: half is enough; those who are OUT are no votes. */
    private static void purge() {
        for (int more = 0; more <= 1; more++) {
            Kleroterion x = Checks.three();
            x.enroll(1, 20, 100, 5);
            for (int k = 0; k < 2; k++) x.enroll(2, 20, 0, 0);
            for (int k = 0; k < 3; k++) x.enroll(2, 20, 0, 5);
            for (int k = 0; k <= more; k++) x.enroll(2, 20, 0, 10);
            C.due("1: all are FULL", x.city(6), 10 + more);
            C.due("4: those in between AGREE with all", x.purge(2), 0);
            for (int k = 6; k < 9; k++) x.sue(3, k, 1, 1, 5);
            C.due("7: tried", x.court(), 3);
            for (int k = 6; k < 9; k++) C.citizen("1: OUT", x, k, 6, 2);
            // VIEWS 0, 0, 10: of two others one is half; 0, 0, 10, 10: of three others one is less
            C.due("4: who WAIT by that", x.purge(2), more == 0 ? 1 : 4);
            C.citizen("4: by votes of how it was ahead", x, 4, 6, more == 0 ? 1 : 0);
            C.citizen("4: none of two", x, 9, 6, 0);
            C.citizen("4: OUT still", x, 6, 6, 2);
            C.due("4: once more", x.purge(2), 0);
        }
    }

    /** FULL ones WAIT by that: not one who is OUT, with whose VIEW nobody AGREES. */
    private static void purgeOfOut() {
        Kleroterion x = Checks.three();
        x.enroll(1, 20, 100, 5);
        x.enroll(2, 20, 0, 15);
        x.sue(3, 4, 1, 1, 5);
        x.court();
        for (int k = 0; k < 2; k++) x.enroll(2, 20, 0, 5);
        C.citizen("1: OUT", x, 4, 6, 2);
        C.due("4: nobody WAITS by that", x.purge(2), 0);
        C.citizen("4: OUT still", x, 4, 6, 2);
    }

    /** Who has no others in the DEME stays, whatever another DEME of that TRIBE thinks; an empty DEME. */
    private static void purgeOfFew() {
        Kleroterion x = new Kleroterion();
        C.due("4: nobody", x.purge(0), 0);
        x.enroll(0, 40, 0, 0);
        for (int k = 0; k < 3; k++) x.enroll(4, 40, 0, 15);
        C.due("4: alone", x.purge(0), 0);
        C.due("4: three alike", x.purge(4), 0);
        C.due("4: the last DEME", x.purge(7), 0);
        C.noIndex("4: 8", x, () -> x.purge(8));
        C.noIndex("4: -1", x, () -> x.purge(-1));
        for (int far : FAR) C.noIndex("4: far", x, () -> x.purge(far));
        Kleroterion y = Checks.overthrown();
        C.due("4: without the people's rule too", y.purge(0), 0);
    }

    /** More than half of the JURY: half STRIKES; JURIES of VIEWS 5 and 15, three of each TRIBE. */
    private static void appeal() {
        for (int third = 0; third <= 1; third++) {
            Kleroterion x = Checks.three();
            for (int k = 0; k < 3; k++) x.enroll(1, 40, 0, 15);
            for (int k = 0; k < 3 * third; k++) x.enroll(2, 40, 0, 5);
            x.enroll(1, 40, 0, 5);
            int who = 6 + 3 * third;
            C.citizen("1: WAITS", x, who, 6, 0);
            C.due("5: is FULL then", x.appeal(who), third == 1);
            C.citizen("5: STATUS", x, who, 6, third == 1 ? 1 : 5);
            C.due("5: the JURY", x.jury(0), 6 + 3 * third);
            C.due("5: for it", x.jury(1), 3 + 3 * third);
            C.due("5: it costs 1 for each", x.money(0), 300 - 6 - 3 * third);
            C.noState("5: does not WAIT", x, () -> x.appeal(who));
        }
    }

    /** FULL, or OUT with a DEBT; by FINES of 9, 10, 11 and 30 of a WEALTH of 10. */
    private static void appealWithDebt() {
        for (int amount : new int[] {9, 10, 11, 30}) {
            Kleroterion x = sued();
            x.enroll(3, 20, 0, 0);
            x.enroll(3, 20, 10, 10);
            C.citizen("1: WAITS", x, 5, 6, 0);
            fine(x, 5, amount);
            C.citizen("1: DEBT", x, 5, 7, Math.max(0, amount - 10));
            C.due("5: is FULL then, not with a DEBT", x.appeal(5), amount <= 10);
            C.citizen("5: STATUS", x, 5, 6, amount <= 10 ? 1 : 2);
            C.citizen("5: the DEBT stays", x, 5, 7, Math.max(0, amount - 10));
            C.due("38: sound", x.isSound(), true);
            Kleroterion y = sued();
            y.enroll(3, 20, 0, 0);
            y.enroll(3, 20, 10, 15);
            fine(y, 5, amount);
            C.due("5: STRUCK", y.appeal(5), false);
            C.citizen("1: owes nothing as that one becomes so", y, 5, 7, 0);
        }
    }

    /** Who APPEALS; the exceptions, in their order. */
    private static void appealRefused() {
        Kleroterion x = sued(0);
        x.enroll(0, 70, 0, 15);
        fine(x, 4, 1);
        C.noState("5: FULL", x, () -> x.appeal(0));
        C.noState("5: OUT", x, () -> x.appeal(4));
        C.noIndex("5: below 0", x, () -> x.appeal(-1));
        C.noIndex("5: none of that number", x, () -> x.appeal(6));
        for (int far : FAR) C.noIndex("5: far", x, () -> x.appeal(far));
        for (int k = 0; k < 5; k++) x.pass(40);
        C.noState("5: DEAD", x, () -> x.appeal(5));
        Kleroterion y = new Kleroterion();
        y.found(8, 0);
        y.pass(20);
        y.sherds();
        C.noState("5: EXILED", y, () -> y.appeal(0));
        Kleroterion z = Checks.overthrown();
        z.enroll(0, 40, 0, 15);
        C.noState("5: the people do not rule", z, () -> z.appeal(3));
        C.noIndex("5: nor do they, and nobody is there", z, () -> z.appeal(4));
    }

    /** OUT: no more of the COUNCIL nor CHAIR, but with OFFICE, LEASE and BURDEN; FULL again, not in the COUNCIL. */
    private static void whatOutKeeps() {
        Kleroterion x = sued(150);
        x.enroll(3, 20, 100, 5);
        x.pass(40);
        C.citizen("9: a SHIP", x, 4, 12, 1);
        x.pass(20);
        x.enroll(2, 40, 5, 5);
        x.stand(6, 0);
        C.due("4: archon", x.fill(0), 6);
        x.lease(4, 1, 7);
        x.lease(6, 2, 9);
        x.sue(3, 4, 1, 200, 5);
        x.sue(3, 6, 1, 15, 5);
        x.sue(6, 5, 0, 10, 5);
        C.due("7: tried", x.court(), 3);
        C.citizen("1: OUT", x, 4, 6, 2);
        C.citizen("1: OUT", x, 6, 6, 2);
        C.citizen("1: the BURDEN stays", x, 4, 12, 1);
        C.due("1: the OFFICE stays", x.ofOffice(0, 0), 6);
        C.due("1: the LEASES stay", x.money(3), 16);
        C.due("38: sound", x.isSound(), true);
        C.due("6: PAYS", x.pay(6), 10);
        C.due("40: FULL, in OFFICE", x.tell(6), "6 of 2: full office 0");
    }

    private static void councilOfOneWhoIsOut() {
        Kleroterion x = new Kleroterion();
        for (int k = 0; k < 3; k++) x.enroll(0, 40, 0, 5);
        for (int k = 0; k < 3; k++) x.enroll(1, 40, 100, 5);
        x.enroll(2, 20, 100, 5);
        C.due("2: seat", x.seat(), 6);
        Checks.tillChair(x);
        int chair = x.council(2);
        x.sue(6, chair, 1, 200, 5);
        x.sue(chair, 6, 0, 1, 5);
        x.court();
        C.citizen("1: OUT", x, chair, 6, 2);
        C.due("1: no CHAIR", x.council(2), -1);
        C.due("1: five are in the COUNCIL", x.council(0), 5);
        C.citizen("1: not in it", x, chair, 11, 0);
        C.noState("12: no CHAIR, no ASSEMBLY", x, x::assembly);
        C.noState("8: there is a COUNCIL with anybody in it", x, x::seat);
        C.citizen("2: counted once", x, chair, 9, 1);
    }

    /** EXILED: no OFFICE (without an account), LEASE, BURDEN; what others have stays. */
    private static void whatExileTakes() {
        Kleroterion x = new Kleroterion();
        x.enroll(0, 40, 200, 15);
        for (int k = 1; k < 8; k++) x.enroll(k, 40, k == 1 ? 150 : 0, 5);
        x.pass(40);
        x.pass(20);
        C.citizen("9: a SHIP", x, 0, 12, 1);
        C.citizen("9: a SHIP", x, 1, 12, 1);
        x.stand(0, 0);
        x.stand(1, 4);
        x.fill(0);
        x.fill(4);
        x.stand(2, 2);
        x.lease(0, 0, 10);
        x.lease(1, 1, 30);
        x.lease(0, 2, 20);
        int draws = x.city(4);
        C.due("11: EXILED", x.sherds(), 0);
        C.due("1: no OFFICE", x.ofOffice(0, 0), -1);
        C.due("1: no account is DRAWN", x.city(4), draws);
        C.due("1: the OFFICE of another one stays", x.ofOffice(4, 0), 1);
        C.due("1: two LEASES are free, the other one not", x.money(3), 30);
        C.due("25: free", x.lease(2, 0, 1), -1);
        C.due("25: held", x.lease(2, 1, 31), 1);
        C.citizen("1: no BURDEN", x, 0, 12, 0);
        C.citizen("1: that of another one stays", x, 1, 12, 1);
        C.due("31: none to be done", x.ofTribe(0, 1), 0);
        C.due("31: one", x.ofTribe(1, 1), 1);
        C.due("4: others stand on", x.ofOffice(2, 1), 1);
        C.noState("29: has none", x, () -> x.bear(0));
        C.due("38: sound", x.isSound(), true);
    }

    /** DEAD by a WAR, as one of 8 (of the first levy that kills the general 3 of TRIBE 1). */
    private static void whatDeathTakes() {
        for (int k = 0; k < 64; k++) {
            Kleroterion x = new Kleroterion();
            for (int s = 0; s < k; s++) x.seat();
            for (int c = 0; c < 3; c++) x.enroll(0, 40, 100, 5);
            x.enroll(1, 40, 200, 5);
            x.enroll(2, 20, 150, 5);
            x.seat();
            Checks.tillChair(x);
            if (x.city(0) >= 40) continue;
            x.move(0, 5, 0, 5, 300);
            x.assembly();
            x.pass(40 - x.city(0));
            x.stand(3, 4);
            x.fill(4);
            x.lease(3, 0, 10);
            x.lease(4, 1, 20);
            Checks.Luck luck = new Checks.Luck(x);
            luck.draw(40);
            if (luck.draw(8) != 0) continue;
            C.citizen("9: a SHIP", x, 3, 12, 1);
            C.due("4: a general", x.ofOffice(4, 0), 3);
            int draws = x.city(4);
            x.levy(2);
            C.citizen("13: DEAD", x, 3, 6, 4);
            C.due("1: no OFFICE", x.ofOffice(4, 0), -1);
            C.due("1: no account is DRAWN", x.city(4), draws + 2);
            C.due("1: the LEASE is free, the other one not", x.money(3), 20);
            C.citizen("1: no BURDEN", x, 3, 12, 0);
            C.citizen("1: that of another one stays", x, 4, 12, 1);
            C.due("31: dead by wars", x.ofTribe(1, 4), 1);
            return;
        }
        C.due("13: one levy kills", false, true);
    }

    /** WAITS: as the others, and what others have stays. */
    private static void whatPurgeTakes() {
        Kleroterion x = tornDeme(200);
        x.pass(40);
        C.citizen("9: a SHIP", x, 6, 12, 1);
        x.lease(6, 0, 10);
        x.lease(3, 1, 20);
        x.sue(6, 3, 0, 10, 5);
        C.due("4: one WAITS", x.purge(2), 1);
        C.citizen("1: no BURDEN", x, 6, 12, 0);
        C.due("1: one LEASE is free", x.money(3), 20);
        C.due("7: the suit waits on", x.jury(6), 1);
        C.due("38: sound", x.isSound(), true);
    }

    /** CLASS: 0 with a WEALTH below 20, 1 below 60, 2 below 120, 3 otherwise. */
    private static void classes() {
        int[][] due = {{0, 0}, {19, 0}, {20, 1}, {59, 1}, {60, 2}, {119, 2}, {120, 3}, {300, 3}};
        for (int[] d : due) {
            Kleroterion x = new Kleroterion();
            x.enroll(0, 40, d[0], 5);
            C.citizen("1: CLASS by " + d[0], x, 0, 5, d[1]);
        }
    }

    private static void ofCitizenRefused() {
        Kleroterion x = Checks.three();
        for (int what : new int[] {-1, 13, FAR[0], FAR[1]}) {
            C.noArgument("7: what " + what, x, () -> x.ofCitizen(0, what));
            C.noIndex("7: nobody, ahead of what " + what, x, () -> x.ofCitizen(3, what));
        }
        C.noIndex("7: below 0", x, () -> x.ofCitizen(-1, 0));
        for (int far : FAR) C.noIndex("7: far", x, () -> x.ofCitizen(far, 0));
        Kleroterion none = new Kleroterion();
        C.noIndex("7: nobody at all", none, () -> none.ofCitizen(0, 0));
    }

    public static void main(String[] args) {
        enrollRanges();
        forty();
        fortyOfAnyStatus();
        found();
        votes();
        emptyDeme();
        fines();
        moreDebt();
        pay();
        payOfOneWhoWaits();
        whoCannotPay();
        purge();
        purgeOfOut();
        purgeOfFew();
        appeal();
        appealWithDebt();
        appealRefused();
        whatOutKeeps();
        councilOfOneWhoIsOut();
        whatExileTakes();
        whatDeathTakes();
        whatPurgeTakes();
        classes();
        ofCitizenRefused();
        C.end();
    }
}
