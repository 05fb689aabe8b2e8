/** Section 8 and promises 25 to 27, sentence by sentence: LEASES, ALLIES, money. */
public final class EdgesMoneyTest {
    private static final Checks C = new Checks();
    private static final int[] FAR = {Integer.MIN_VALUE, Integer.MAX_VALUE};

    /** 3 LEASES, numbered from 0; a RENT (1 to 100) above the one that is bid for it by now (0 if it is free). */
    private static void bids() {
        Kleroterion x = Checks.three();
        for (int lease = 0; lease < 3; lease++) {
            int l = lease;
            C.due("25: it was free", x.lease(0, lease, 1), -1);
            C.noArgument("25: as much as by now", x, () -> x.lease(1, l, 1));
            C.due("25: one more", x.lease(1, lease, 2), 0);
            C.due("25: the own one too", x.lease(1, lease, 99), 1);
            C.noArgument("25: less than by now", x, () -> x.lease(0, l, 98));
            C.due("25: the most", x.lease(2, lease, 100), 1);
            C.noArgument("25: no more then", x, () -> x.lease(0, l, 100));
            C.due("27: all RENT that is bid now", x.money(3), 100 * lease + 100);
        }
        for (int rent : new int[] {0, -1, 101, FAR[0], FAR[1]}) {
            C.noArgument("25: RENT " + rent, x, () -> x.lease(0, 0, rent));
            C.noIndex("25: ahead of that, LEASE 3", x, () -> x.lease(0, 3, rent));
        }
        Kleroterion free = Checks.three();
        for (int rent : new int[] {0, -1, 101}) C.noArgument("25: RENT " + rent + " of a free one", free, () -> free.lease(0, 0, rent));
        for (int lease : new int[] {-1, 3, FAR[0], FAR[1]}) C.noIndex("25: LEASE " + lease, free, () -> free.lease(0, lease, 5));
        for (int who : new int[] {-1, 3, FAR[0], FAR[1]}) C.noIndex("25: CITIZEN " + who, free, () -> free.lease(who, 0, 5));
    }

    /** Who bids is FULL: not OUT, WAITING, STRUCK, DEAD, EXILED; one who is BARRED bids. */
    private static void bidders() {
        Kleroterion x = Checks.three();
        x.enroll(1, 20, 100, 5);
        x.enroll(2, 20, 0, 5);
        x.enroll(0, 40, 0, 15);
        x.enroll(0, 40, 0, 15);
        x.enroll(3, 70, 0, 5);
        x.appeal(6);
        x.sue(3, 4, 1, 1, 5);
        x.sue(3, 4, 1, 1, 15);
        x.court();
        C.noState("25: OUT", x, () -> x.lease(4, 0, 5));
        C.noState("25: WAITS", x, () -> x.lease(5, 0, 5));
        C.noState("25: STRUCK", x, () -> x.lease(6, 0, 5));
        C.noArgument("25: STRUCK, but a wrong RENT ahead of that", x, () -> x.lease(6, 0, 0));
        C.citizen("7: BARRED", x, 3, 8, 40);
        C.due("25: BARRED", x.lease(3, 0, 5), -1);
        for (int k = 0; k < 5; k++) x.pass(40);
        C.noState("25: DEAD", x, () -> x.lease(7, 0, 5));
        Kleroterion y = new Kleroterion();
        y.found(8, 0);
        y.pass(20);
        y.sherds();
        C.noState("25: EXILED", y, () -> y.lease(0, 0, 5));
        Kleroterion z = Checks.overthrown();
        C.due("25: without the people's rule too", z.lease(0, 0, 5), -1);
    }

    /** As a YEAR ends its holder pays RENT, as a FINE is paid; all are free then. */
    private static void rents() {
        for (int wealth : new int[] {61, 60, 59, 29, 0}) {
            Kleroterion x = Checks.three();
            x.enroll(1, 20, wealth, 5);
            for (int lease = 0; lease < 3; lease++) x.lease(3, lease, 10 * lease + 10);
            x.pass(39);
            C.citizen("8: nothing till the YEAR ends", x, 3, 4, wealth);
            C.due("27: RENT", x.money(3), 60);
            x.pass(1);
            C.citizen("8: 60 of " + wealth, x, 3, 4, Math.max(0, wealth - 60));
            C.citizen("8: a DEBT", x, 3, 7, Math.max(0, 60 - wealth));
            C.citizen("8: STATUS", x, 3, 6, wealth < 60 ? 2 : 1);
            C.due("8: it came in", x.money(7), Math.min(60, wealth));
            C.due("8: all are free", x.money(3), 0);
            for (int lease = 0; lease < 3; lease++) C.due("8: free", x.lease(0, lease, 1), -1);
            x.pass(40);
            C.citizen("8: one YEAR alone", x, 3, 7, Math.max(0, 60 - wealth));
        }
        Kleroterion x = Checks.three();
        x.enroll(1, 20, 100, 5);
        x.enroll(2, 20, 100, 5);
        x.lease(3, 0, 40);
        x.lease(4, 0, 50);
        x.sue(3, 4, 1, 90, 5);
        x.court();
        x.sue(3, 4, 1, 90, 5);
        x.pass(1);
        x.court();
        C.citizen("1: the holder is OUT", x, 4, 6, 2);
        C.citizen("1: with a DEBT", x, 4, 7, 80);
        C.due("1: and holds it", x.money(3), 50);
        x.pass(39);
        C.citizen("8: pays as DEBT", x, 4, 7, 130);
        C.citizen("8: who bid once pays nothing", x, 3, 4, 100);
    }

    /** At most 4, each with a TRIBUTE (1 to 60) and a MIGHT (1 to 99). */
    private static void allies() {
        Kleroterion x = new Kleroterion();
        for (int tribute : new int[] {0, -1, 61, FAR[0], FAR[1]}) C.noArgument("26: TRIBUTE " + tribute, x, () -> x.ally(tribute, 50));
        for (int might : new int[] {0, -1, 100, FAR[0], FAR[1]}) C.noArgument("26: MIGHT " + might, x, () -> x.ally(50, might));
        C.due("26: the least", x.ally(1, 1), 1);
        C.due("26: the most", x.ally(60, 99), 2);
        C.due("26: the third one", x.ally(2, 2), 3);
        C.due("26: the fourth one", x.ally(3, 3), 4);
        C.noState("26: there are 4", x, () -> x.ally(1, 1));
        C.noArgument("26: there are 4, but a wrong MIGHT ahead of that", x, () -> x.ally(1, 100));
        C.due("27: TRIBUTE", x.money(4), 66);
        C.due("27: ALLIES", x.money(5), 4);
        x.pass(39);
        C.due("8: nothing till the YEAR ends", x.money(0), 300);
        x.pass(1);
        C.due("8: it came in, but for the one that fell off", x.money(0), 306);
        C.due("26: there is room by that", x.ally(10, 99), 4);
        C.noState("26: there are 4 again", x, () -> x.ally(1, 1));
        C.due("27: TRIBUTE", x.money(4), 16);
        x.pass(40);
        C.due("8: the last one fell off", x.money(5), 3);
        C.due("8: TRIBUTE of the others", x.money(7), 12);
        C.due("8: UNREST is 2 more for each", x.city(7), 4);
    }

    /** One with a MIGHT above 20 + 20 times SHIPS falls off: SHIPS are 0 to 4, one of each TRIBE. */
    private static void mights() {
        for (int ships = 0; ships <= 4; ships++) {
            Kleroterion x = new Kleroterion();
            for (int t = 0; t < 4; t++) x.enroll(t, 20, 300, 5);
            x.pass(40);
            for (int t = 0; t < ships; t++) C.due("29: SHIPS", x.bear(t), t + 1);
            C.due("36: SHIPS", x.city(13), ships);
            int most = 20 + 20 * ships;
            x.ally(1, Math.min(99, most + 1));
            x.ally(2, Math.min(99, most));
            x.ally(4, Math.min(99, most - 1));
            x.ally(8, 1);
            int took = x.money(7);
            int fines = 60 * (4 - ships);
            x.pass(40);
            C.due("8: of a MIGHT of " + (most + 1) + " and " + most, x.money(4), ships == 4 ? 15 : 14);
            C.due("8: UNREST", x.city(7), ships == 4 ? 0 : 2);
            C.due("8: FINES and TRIBUTE", x.money(7) - took, fines + x.money(4));
            C.due("0: SHIPS are 0 then", x.city(13), 0);
        }
    }

    /** What is asked of money; TREASURY is 300, what came in, less what was paid out. */
    private static void money() {
        Kleroterion x = Checks.three();
        x.enroll(1, 20, 10, 5);
        x.enroll(2, 20, 0, 5);
        x.seat();
        x.move(0, 2, 0, 5, 20);
        x.move(0, 3, 0, 5, 30);
        x.assembly();
        x.lease(0, 0, 7);
        x.lease(1, 2, 8);
        x.ally(5, 1);
        x.ally(6, 2);
        x.sue(0, 3, 1, 10, 5);
        x.court();
        x.pass(1);
        x.sue(4, 3, 1, 40, 5);
        x.court();
        x.pass(1);
        x.sue(4, 3, 1, 3, 5);
        C.citizen("1: DEBT", x, 3, 7, 30);
        int[] due = {300 + 10 - 50 - 3, 30, 20, 15, 11, 2, 30, 10, 53};
        for (int k = 0; k < 9; k++) C.due("27: " + k, x.money(k), due[k]);
        for (int what : new int[] {-1, 9, FAR[0], FAR[1]}) C.noArgument("27: what " + what, x, () -> x.money(what));
        Kleroterion debts = new Kleroterion();
        for (int k = 0; k < 3; k++) debts.enroll(k, 20, 10 * k, 5);
        for (int k = 0; k < 3; k++) debts.lease(k, k, 30);
        debts.pass(40);
        C.due("27: all DEBTS, of the first and the last one too", debts.money(6), 30 + 20 + 10);
    }

    public static void main(String[] args) {
        bids();
        bidders();
        rents();
        allies();
        mights();
        money();
        C.end();
    }
}
