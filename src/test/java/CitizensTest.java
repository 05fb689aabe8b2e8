/** Promises 1 to 7: a new object, enroll, found, purge, appeal, pay, ofCitizen. */
public final class CitizensTest {
    private static final Checks C = new Checks();

    private static void newObject() {
        Kleroterion x = new Kleroterion();
        int[] city = {0, 0, 0, 0, 0, 0, 0, 0, 1, -1, -1, 0, 0, 0, 0};
        for (int k = 0; k < city.length; k++) C.due("new: city " + k, x.city(k), city[k]);
        int[] council = {0, 0, -1, -1, 0};
        for (int k = 0; k < council.length; k++) C.due("new: council " + k, x.council(k), council[k]);
        for (int k = 0; k < 9; k++) C.due("new: money " + k, x.money(k), k == 0 ? 300 : 0);
        for (int k = 0; k < 7; k++) C.due("new: jury " + k, x.jury(k), 0);
        for (int k = 0; k < 8; k++) C.due("new: law " + k, x.law(k), -1);
        for (int o = 0; o < 7; o++) {
            int[] office = {-1, 0, -1, 0};
            for (int k = 0; k < 4; k++) C.due("new: office " + o + " " + k, x.ofOffice(o, k), office[k]);
        }
        for (int t = 0; t < 4; t++) for (int k = 0; k < 5; k++) C.due("new: tribe", x.ofTribe(t, k), 0);
        C.due("new: sound", x.isSound(), true);
        C.noIndex("new: ofCitizen", x, () -> x.ofCitizen(0, 0));
        C.noIndex("new: ofDecree", x, () -> x.ofDecree(0, 0));
        C.noIndex("new: ofSuit", x, () -> x.ofSuit(0, 0));
        C.noIndex("new: would", x, () -> x.would(0));
        C.noIndex("new: tell", x, () -> x.tell(0));
    }

    private static void enroll() {
        Kleroterion x = new Kleroterion();
        C.due("the first of a DEME", x.enroll(0, 18, 0, 0), 0);
        C.due("is FULL", x.ofCitizen(0, 6), 1);
        C.due("differs by 6", x.enroll(0, 70, 300, 6), 1);
        C.due("WAITS", x.ofCitizen(1, 6), 0);
        C.due("differs by 5", x.enroll(0, 70, 300, 5), 2);
        C.due("is FULL too", x.ofCitizen(2, 6), 1);
        C.due("half is not more than half", x.enroll(0, 30, 0, 10), 3);
        C.due("so that one WAITS", x.ofCitizen(3, 6), 0);
        C.due("who WAITS does not vote", x.enroll(0, 30, 0, 4), 4);
        C.due("so that one is FULL", x.ofCitizen(4, 6), 1);
        C.due("another DEME of that TRIBE", x.enroll(4, 30, 0, 15), 5);
        C.due("has voters of its own", x.ofCitizen(5, 6), 1);
        int[][] wrong = {{-1, 30, 0, 0}, {8, 30, 0, 0}, {0, 17, 0, 0}, {0, 71, 0, 0}, {0, 30, -1, 0}, {0, 30, 301, 0}, {0, 30, 0, -1}, {0, 30, 0, 16}};
        for (int[] w : wrong) C.noArgument("enroll " + java.util.Arrays.toString(w), x, () -> x.enroll(w[0], w[1], w[2], w[3]));
        x.found(34, 0);
        C.noState("a 41st one", x, () -> x.enroll(0, 30, 0, 0));
        C.noArgument("a wrong 41st one", x, () -> x.enroll(8, 30, 0, 0));
    }

    private static void found() {
        Kleroterion x = new Kleroterion();
        C.due("found", x.found(10, 7), 10);
        for (int k = 0; k < 10; k++) {
            int[] due = {k % 8, k % 4, 20 + (7 * k + 7) % 45, (5 * k + 7) % 16, (31 * k + 77) % 150};
            for (int what = 0; what < due.length; what++) C.due("found: of " + k + " " + what, x.ofCitizen(k, what), due[what]);
            C.due("found: FULL", x.ofCitizen(k, 6), 1);
        }
        C.due("found again", x.found(1, 99), 11);
        C.due("from DEME 0 on", x.ofCitizen(10, 0), 0);
        C.due("AGE", x.ofCitizen(10, 2), 29);
        C.due("WEALTH", x.ofCitizen(10, 4), 39);
        C.due("VIEW", x.ofCitizen(10, 3), 3);
        C.noArgument("nobody", x, () -> x.found(0, 0));
        C.noArgument("too many at once", x, () -> x.found(41, 0));
        C.noArgument("a seed below 0", x, () -> x.found(1, -1));
        C.noArgument("a seed above 99", x, () -> x.found(1, 100));
        C.noState("more than 40", x, () -> x.found(30, 0));
        C.due("just 40", x.found(29, 0), 40);
        C.noState("one more", x, () -> x.found(1, 0));
    }

    private static void purge() {
        Kleroterion x = new Kleroterion();
        x.found(24, 0);
        C.due("VIEWS 0, 8, 0", x.purge(0), 1);
        C.due("half of the others is enough", x.ofCitizen(0, 6), 1);
        C.due("the other one WAITS", x.ofCitizen(8, 6), 0);
        C.due("who WAITS is no vote any more", x.purge(0), 0);
        Kleroterion y = new Kleroterion();
        y.found(16, 0);
        C.due("by votes of how it was ahead", y.purge(0), 2);
        C.due("both WAIT", y.roll(0, 0, -1), 2);
        C.due("nobody is left", y.purge(0), 0);
        Kleroterion z = new Kleroterion();
        z.found(8, 0);
        C.due("who is alone stays", z.purge(3), 0);
        C.noIndex("DEME -1", z, () -> z.purge(-1));
        C.noIndex("DEME 8", z, () -> z.purge(8));
    }

    /** Who WAITS holds nothing any more: CHAIR, COUNCIL, LEASE, OFFICE, BURDEN. */
    private static void loss() {
        Kleroterion x = new Kleroterion();
        x.found(24, 0);
        x.seat();
        x.pass(1);
        int chair = x.council(2);
        C.due("the CHAIR of DAY 1", chair, 11);
        int before = x.council(0);
        x.lease(chair, 1, 7);
        x.purge(x.ofCitizen(chair, 0));
        C.due("the CHAIR WAITS", x.ofCitizen(chair, 6), 0);
        C.due("no CHAIR", x.council(2), -1);
        C.due("not in the COUNCIL", x.ofCitizen(chair, 11), 0);
        C.due("one fewer there", x.council(0), before - 1);
        C.due("no RENT", x.money(3), 0);
        C.due("the LEASE is free", x.lease(15, 1, 1), -1);
        Kleroterion y = new Kleroterion();
        y.found(16, 0);
        y.stand(5, 0);
        y.stand(5, 2);
        y.fill(0);
        C.due("in OFFICE", y.ofOffice(0, 0), 5);
        y.purge(5);
        C.due("out of it", y.ofOffice(0, 0), -1);
        C.due("without an account", y.city(4), 1);
        C.noState("none to be sued for", y, () -> y.sue(0, 5, 3, 10, 0));
        C.due("who stands stands on", y.ofOffice(2, 1), 1);
        Kleroterion z = new Kleroterion();
        z.enroll(0, 40, 200, 0);
        z.enroll(0, 40, 200, 5);
        z.enroll(0, 40, 200, 5);
        z.pass(40);
        C.due("a SHIP", z.ofCitizen(0, 12), 1);
        z.enroll(0, 40, 0, 9);
        C.due("who joins", z.ofCitizen(3, 6), 1);
        C.due("half of two", z.purge(0), 0);
        z.enroll(0, 40, 0, 10);
        C.due("who joins then", z.ofCitizen(4, 6), 1);
        C.due("two of four are half", z.purge(0), 0);
        z.enroll(0, 40, 0, 10);
        C.due("two of five are less", z.purge(0), 1);
        C.due("the BURDEN is gone", z.ofCitizen(0, 12), 0);
        C.due("of the TRIBE too", z.ofTribe(0, 1), 1);
    }

    private static void appeal() {
        Kleroterion x = Checks.three();
        x.enroll(4, 29, 0, 15);
        x.enroll(4, 30, 0, 10);
        C.due("differs by 5 from the one of the DEME", x.ofCitizen(4, 6), 1);
        x.enroll(4, 30, 0, 0);
        C.due("one of that DEME WAITS", x.ofCitizen(5, 6), 0);
        C.due("three of TRIBE 0 judge, no young one", x.appeal(5), true);
        C.due("FULL", x.ofCitizen(5, 6), 1);
        C.due("JURY", x.jury(0), 3);
        C.due("all for it", x.jury(1), 3);
        C.due("of TRIBE 0", x.jury(2), 1);
        C.due("it costs 3", x.money(0), 297);
        x.enroll(0, 30, 0, 15);
        C.due("STRUCK", x.appeal(6), false);
        C.due("with nobody for it", x.jury(1), 0);
        C.due("STATUS", x.ofCitizen(6, 6), 5);
        C.noState("who is STRUCK", x, () -> x.appeal(6));
        C.noState("who is FULL", x, () -> x.appeal(0));
        C.noIndex("nobody", x, () -> x.appeal(7));
        C.noIndex("below 0", x, () -> x.appeal(-1));
        Kleroterion y = new Kleroterion();
        y.enroll(0, 40, 0, 0);
        y.enroll(0, 40, 0, 15);
        C.due("without jurors", y.appeal(1), false);
        C.due("STRUCK too", y.ofCitizen(1, 6), 5);
        C.due("nothing DRAWN", y.city(4), 0);
        Kleroterion z = Checks.overthrown();
        z.enroll(0, 40, 0, 15);
        C.noState("the people do not rule", z, () -> z.appeal(3));
    }

    /** Rents make a DEBT; suits that wait bring WEALTH to one who is OUT. */
    private static void pay() {
        Kleroterion x = Checks.three();
        x.enroll(1, 40, 10, 5);
        x.enroll(2, 40, 90, 5);
        x.lease(3, 0, 40);
        x.sue(3, 4, 0, 20, 5);
        x.sue(3, 4, 0, 25, 5);
        C.due("no DEBT", x.pay(3), 0);
        x.pass(40);
        C.due("RENT as a FINE", x.ofCitizen(3, 4), 0);
        C.due("lacking", x.ofCitizen(3, 7), 30);
        C.due("OUT", x.ofCitizen(3, 6), 2);
        C.due("all DEBTS", x.money(6), 30);
        C.due("nothing to PAY with", x.pay(3), 0);
        C.due("both tried", x.court(), 2);
        C.due("WEALTH", x.ofCitizen(3, 4), 45);
        int before = x.money(0);
        C.due("PAYS all of it", x.pay(3), 30);
        C.due("WEALTH is less", x.ofCitizen(3, 4), 15);
        C.due("into the TREASURY", x.money(0), before + 30);
        C.due("FULL", x.ofCitizen(3, 6), 1);
        C.due("no DEBT any more", x.pay(3), 0);
        Kleroterion y = Checks.three();
        y.enroll(1, 40, 10, 5);
        y.enroll(2, 40, 90, 5);
        y.lease(3, 0, 40);
        y.sue(3, 4, 0, 20, 5);
        y.pass(40);
        y.court();
        C.due("a part of it", y.pay(3), 20);
        C.due("is left", y.ofCitizen(3, 7), 10);
        C.due("OUT still", y.ofCitizen(3, 6), 2);
        y.enroll(0, 70, 50, 15);
        y.appeal(5);
        C.noState("who is STRUCK", y, () -> y.pay(5));
        C.noIndex("nobody", y, () -> y.pay(6));
        y.pass(40);
        y.pass(40);
        y.pass(40);
        y.pass(40);
        y.pass(40);
        C.due("DEAD at 75", y.ofCitizen(5, 6), 4);
        C.noState("who is DEAD", y, () -> y.pay(5));
    }

    private static void ofCitizen() {
        Kleroterion x = new Kleroterion();
        int[] wealths = {19, 20, 59, 60, 119, 120};
        int[] classes = {0, 1, 1, 2, 2, 3};
        for (int k = 0; k < 6; k++) {
            x.enroll(6, 69, wealths[k], 7);
            C.due("CLASS by " + wealths[k], x.ofCitizen(k, 5), classes[k]);
        }
        int[] due = {6, 2, 69, 7, 19, 0, 1, 0, 0, 0, -1, 0, 0};
        for (int what = 0; what < due.length; what++) C.due("of 0: " + what, x.ofCitizen(0, what), due[what]);
        C.noIndex("nobody, ahead of a wrong what", x, () -> x.ofCitizen(6, 13));
        C.noArgument("13", x, () -> x.ofCitizen(0, 13));
        C.noArgument("-1", x, () -> x.ofCitizen(0, -1));
        for (int year = 1; year <= 6; year++) {
            x.pass(40);
            C.due("a YEAR older", x.ofCitizen(0, 2), 69 + year);
            C.due("STATUS at " + (69 + year), x.ofCitizen(0, 6), year == 6 ? 4 : 1);
        }
        x.pass(40);
        C.due("older, DEAD or not", x.ofCitizen(0, 2), 76);
    }

    public static void main(String[] args) {
        newObject();
        enroll();
        found();
        purge();
        loss();
        appeal();
        pay();
        ofCitizen();
        C.end();
    }
}
