/** Promises 16 to 18: stand, fill, ofOffice; CONFIDENCE and accounts. */
public final class OfficesTest {
    private static final Checks C = new Checks();

    private static void stand() {
        Kleroterion x = new Kleroterion();
        x.enroll(0, 30, 120, 5);
        x.enroll(0, 29, 120, 5);
        x.enroll(1, 30, 119, 5);
        x.enroll(1, 30, 20, 5);
        x.enroll(1, 30, 19, 5);
        x.enroll(1, 30, 19, 15);
        C.due("CLASS 3 for 1", x.stand(0, 1), 1);
        C.noState("once", x, () -> x.stand(0, 1));
        C.noState("CLASS 2 for 1", x, () -> x.stand(2, 1));
        C.noState("29 years old", x, () -> x.stand(1, 0));
        C.due("CLASS 1 of TRIBE 1 for 4", x.stand(3, 4), 1);
        C.noState("CLASS 0 for 4", x, () -> x.stand(4, 4));
        C.noState("another TRIBE", x, () -> x.stand(3, 3));
        C.noState("WAITS", x, () -> x.stand(5, 0));
        C.due("any CLASS for 0", x.stand(4, 0), 1);
        C.due("any CLASS for 2", x.stand(4, 2), 1);
        C.noIndex("no such OFFICE", x, () -> x.stand(0, 7));
        C.noIndex("below 0", x, () -> x.stand(0, -1));
        C.noIndex("no such CITIZEN", x, () -> x.stand(6, 0));
        x.fill(1);
        C.noState("has an OFFICE", x, () -> x.stand(0, 0));
        Kleroterion y = Checks.three();
        for (int k = 3; k < 8; k++) y.enroll(0, 40, 100, 5);
        for (int k = 0; k < 6; k++) C.due("stands", y.stand(k, 3), k + 1);
        C.noState("six stand", y, () -> y.stand(6, 3));
        C.due("for another one", y.stand(6, 2), 1);
        y.fill(3);
        C.noState("it is not empty", y, () -> y.stand(6, 3));
        C.due("nobody stands any more", y.ofOffice(3, 1), 0);
    }

    private static void barred() {
        Kleroterion x = Checks.three();
        x.enroll(1, 40, 100, 5);
        x.enroll(2, 20, 0, 5);
        x.stand(3, 0);
        x.sue(3, 4, 1, 10, 15);
        x.court();
        C.due("BARRED", x.ofCitizen(3, 8), 40);
        C.noState("does not stand", x, () -> x.stand(3, 2));
        C.due("nor is FIT any more", x.fill(0), -1);
        C.due("nobody stands", x.ofOffice(0, 1), 0);
    }

    private static void byLot() {
        for (int before = 0; before < 6; before++) {
            Kleroterion x = new Kleroterion();
            for (int k = 0; k < before; k++) x.seat();
            for (int k = 0; k < 6; k++) x.enroll(0, 40, 100, 5);
            for (int k = 5; k >= 0; k--) x.stand(k, 2);
            Checks.Luck luck = new Checks.Luck(x);
            C.due("in the order in which they stood", x.fill(2), 5 - luck.draw(6));
            C.due("one DRAW", x.city(4), 3 * before + 1);
        }
        Kleroterion x = Checks.three();
        C.due("nobody stands", x.fill(0), -1);
        C.due("nothing DRAWN", x.city(4), 0);
        x.enroll(1, 40, 0, 15);
        x.stand(0, 0);
        x.stand(1, 0);
        x.stand(3, 0);
        x.seat();
        C.due("COUNCILLORS and one with whom nobody of it AGREES", x.fill(0), -1);
        C.due("DRAWN: 5 by the seating, one of 3, of 2, of 1", x.city(4), 8);
        C.noIndex("no such OFFICE", x, () -> x.fill(7));
        C.noIndex("below 0", x, () -> x.fill(-1));
    }

    private static void byVotes() {
        Kleroterion x = new Kleroterion();
        x.enroll(1, 40, 50, 15);
        x.enroll(1, 40, 50, 10);
        x.enroll(1, 40, 50, 10);
        x.enroll(0, 18, 0, 5);
        x.enroll(2, 18, 0, 5);
        x.stand(0, 4);
        x.stand(2, 4);
        x.stand(1, 4);
        C.due("of the best ones who stood first", x.fill(4), 2);
        C.due("nothing DRAWN", x.city(4), 0);
        C.noState("not empty", x, () -> x.fill(4));
        int[] due = {2, 0, 0, 0};
        for (int k = 0; k < 4; k++) C.due("office " + k, x.ofOffice(4, k), due[k]);
        x.pass(7);
        C.due("DAYS in it", x.ofOffice(4, 3), 7);
        C.due("from which on", x.ofOffice(4, 2), 0);
        C.due("of the CITIZEN", x.ofCitizen(2, 10), 4);
        C.noIndex("no such OFFICE", x, () -> x.ofOffice(7, 4));
        C.noIndex("below 0", x, () -> x.ofOffice(-1, 0));
        C.noArgument("-1", x, () -> x.ofOffice(0, -1));
        C.noArgument("4", x, () -> x.ofOffice(0, 4));
    }

    /** Of a COUNCIL of three VIEWS 5 and three VIEWS 15. */
    private static void looking() {
        Kleroterion x = Checks.three();
        for (int k = 0; k < 3; k++) x.enroll(1, 40, 50, 15);
        x.enroll(2, 40, 50, 5);
        x.enroll(2, 40, 50, 10);
        C.due("seat", x.seat(), 6);
        x.stand(6, 5);
        C.due("half is not enough", x.fill(5), -1);
        x.stand(6, 5);
        x.stand(7, 5);
        x.stand(0, 3);
        C.due("all", x.fill(5), 7);
        C.due("who is in the COUNCIL", x.fill(3), -1);
        Kleroterion y = Checks.overthrown();
        y.stand(0, 0);
        C.due("one stands without the people's rule", y.ofOffice(0, 1), 1);
        C.noState("the people do not rule", y, () -> y.fill(0));
    }

    /** The first two DRAWS of one of 8 are 0 (LUCK 5, 6), the third one is 2. */
    private static void confidence() {
        Kleroterion x = new Kleroterion();
        x.enroll(0, 40, 50, 5);
        x.enroll(1, 40, 50, 15);
        x.stand(0, 3);
        x.fill(3);
        x.pass(9);
        C.due("costs nothing yet", x.money(0), 300);
        x.pass(1);
        C.due("half AGREE", x.ofOffice(3, 0), 0);
        C.due("costs 2", x.money(0), 298);
        x.enroll(2, 40, 50, 15);
        x.pass(10);
        C.due("less than half", x.ofOffice(3, 0), -1);
        C.due("it was empty by then", x.money(0), 298 + 2);
        C.due("a tenth of 20 DAYS is a FINE", x.ofCitizen(0, 4), 48);
        C.due("one DRAW", x.city(4), 1);
        x.pass(10);
        C.due("DUE is this DAY", x.sue(1, 0, 3, 10, 5), 0);
        x.pass(1);
        C.noState("it was", x, () -> x.sue(1, 0, 3, 10, 5));
    }

    /** An account is owed no more by one who WAITS. */
    private static void accountOfOneWhoWaits(boolean isPurged) {
        Kleroterion x = new Kleroterion();
        x.enroll(0, 40, 50, 0);
        x.enroll(0, 40, 50, 5);
        x.enroll(0, 40, 50, 5);
        for (int k = 0; k < 3; k++) x.enroll(0, 40, 50, 9 + k / 2);
        x.enroll(1, 40, 50, 15);
        x.stand(0, 3);
        x.fill(3);
        x.pass(10);
        C.due("less than half", x.ofOffice(3, 0), -1);
        if (isPurged) C.due("that one WAITS", x.purge(0), 1);
        if (isPurged) C.noState("no account", x, () -> x.sue(1, 0, 3, 10, 5));
        else C.due("an account", x.sue(1, 0, 3, 10, 5), 0);
    }

    private static void yearEnds() {
        Kleroterion x = new Kleroterion();
        x.enroll(0, 40, 200, 5);
        x.enroll(1, 40, 100, 5);
        x.enroll(2, 40, 100, 5);
        x.ally(30, 20);
        x.stand(0, 1);
        x.stand(1, 4);
        x.stand(2, 2);
        x.fill(1);
        x.fill(4);
        x.lease(2, 0, 54);
        x.pass(39);
        C.due("HANDLED: three times 2 for each", x.ofOffice(1, 3), 12);
        x.pass(1);
        C.due("out of OFFICE", x.ofOffice(1, 0), -1);
        C.due("who stands stands on", x.ofOffice(2, 1), 1);
        C.due("a tenth of 12 and the RENT of 54", x.ofCitizen(0, 4), 194);
        C.due("the next one's DRAW is 2", x.ofCitizen(1, 4), 100);
        C.due("TREASURY", x.money(0), 300 - 12 + 54 + 6 + 30);
        C.due("an account of each", x.sue(2, 1, 3, 10, 5), 0);
        C.due("of the treasurer too", x.sue(2, 0, 3, 10, 5), 1);
        C.noState("not of others", x, () -> x.sue(0, 2, 3, 10, 5));
    }

    private static void overthrown() {
        Kleroterion x = Checks.three();
        x.enroll(1, 40, 100, 5);
        x.stand(3, 4);
        x.fill(4);
        x.stand(1, 2);
        Checks.overthrow(x, 5);
        C.due("the people do not rule", x.city(8), 0);
        C.due("empty", x.ofOffice(4, 0), -1);
        C.due("who stands stands on", x.ofOffice(2, 1), 1);
        C.noState("no account", x, () -> x.sue(0, 3, 3, 10, 5));
    }

    public static void main(String[] args) {
        stand();
        barred();
        byLot();
        byVotes();
        looking();
        confidence();
        accountOfOneWhoWaits(false);
        accountOfOneWhoWaits(true);
        yearEnds();
        overthrown();
        C.end();
    }
}
