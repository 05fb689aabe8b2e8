/** Promises 8 and 9: seat, council. */
public final class CouncilTest {
    private static final Checks C = new Checks();

    private static void state(String when, Kleroterion x, int... due) {
        for (int k = 0; k < due.length; k++) C.due(when + ": council " + k, x.council(k), due[k]);
    }

    /** DRAWN are: a die (1), one of 4 (0), one of 3 (0), one of 2 (1), CHAIR of 3 (0); then of 2 (1), of 1. */
    private static void aYear() {
        Kleroterion x = Checks.three();
        C.due("seat", x.seat(), 3);
        C.due("LUCK", x.city(3), 17);
        C.due("DRAWS", x.city(4), 5);
        state("DAY 0", x, 3, 3, 0, 0, 1);
        C.due("counted", x.ofCitizen(0, 9), 1);
        C.noState("there is one", x, x::seat);
        x.pass(1);
        state("DAY 1", x, 3, 3, 2, 0, 1);
        x.pass(1);
        state("DAY 2", x, 3, 3, 1, 0, 1);
        x.pass(1);
        state("DAY 3, all were CHAIR", x, 3, 3, -1, 0, 1);
        C.due("nothing DRAWN for nobody", x.city(4), 7);
        x.pass(7);
        state("PRYTANY 1", x, 3, 0, -1, 1, 1);
        x.pass(10);
        state("PRYTANY 2", x, 3, 0, -1, 3, 1);
        x.pass(10);
        state("PRYTANY 3", x, 3, 0, -1, 2, 1);
        C.due("DRAWS till the YEAR ends", x.city(4), 7);
        x.pass(10);
        C.due("drawn as the YEAR begins", x.council(0), 3);
        C.due("for the second time", x.ofCitizen(2, 9), 2);
        C.due("DRAWS for that", x.city(4) >= 11, true);
        x.pass(40);
        state("twice is enough", x, 0, 0, -1);
        C.due("nobody to be seated", x.seat(), 0);
        C.due("and once more", x.seat(), 0);
        C.noArgument("-1", x, () -> x.council(-1));
        C.noArgument("5", x, () -> x.council(5));
    }

    private static void whoIsEligible() {
        Kleroterion young = new Kleroterion();
        for (int k = 0; k < 3; k++) young.enroll(0, k == 1 ? 29 : 30, 100, 5);
        C.due("one is 29, so no ROW", young.seat(), 0);
        C.due("only the order is DRAWN", young.city(4), 3);
        C.due("there is an order", young.council(3) >= 0, true);
        young.pass(40);
        C.due("30 by now", young.council(0), 3);

        Kleroterion officer = Checks.three();
        officer.stand(1, 2);
        officer.fill(2);
        C.due("one is in OFFICE", officer.seat(), 0);

        Kleroterion columns = new Kleroterion();
        for (int k = 0; k < 9; k++) columns.enroll(k % 3, 40, 100, 5);
        C.due("each TRIBE has tickets of one COLUMN alone", columns.seat(), 0);

        Kleroterion barred = Checks.three();
        barred.enroll(1, 25, 0, 5);
        barred.enroll(4, 50, 100, 5);
        barred.enroll(8 - 1, 50, 100, 5);
        barred.enroll(7, 50, 100, 5);
        barred.enroll(7, 50, 100, 5);
        barred.sue(4, 3, 1, 10, 15);
        barred.court();
        C.due("BARRED up to DAY 40", barred.ofCitizen(4, 8), 40);
        C.due("a ROW of 0, 1, 2, and one of 5, 6, 7", barred.seat(), 6);
        C.due("of TRIBES 0 and 3", barred.council(4), 9);
        C.due("not BARRED, but below the last ROW, or BARRED", barred.ofCitizen(4, 11), 0);
    }

    /** Two ROWS, one wanted: a die falls for each of them. Each seating of nobody is three DRAWS. */
    private static void machine() {
        for (int before = 0; before < 4; before++) {
            Kleroterion x = new Kleroterion();
            for (int k = 0; k < before; k++) C.due("nobody", x.seat(), 0);
            for (int k = 0; k < 7; k++) x.enroll(4, 40, 100, 5);
            int row = new Checks.Luck(x).draw(2);
            C.due("seat", x.seat(), 3);
            for (int c = 0; c < 7; c++) C.due("TAKEN of ROW " + row, x.ofCitizen(c, 11), c / 3 == row ? 1 : 0);
            C.due("dice, the order, CHAIR", x.city(4), 3 * before + 2 + 3 + (x.council(1) > 0 ? 1 : 0));
        }
    }

    /** All of the COUNCIL are lost on one DAY; who was CHAIR in this PRYTANY is not so again in it. */
    private static void seatedAnew() {
        Kleroterion x = new Kleroterion();
        for (int k = 0; k < 3; k++) x.enroll(0, 40, 0, 5);
        for (int k = 0; k < 3; k++) x.enroll(1, 40, 100, 5);
        x.enroll(2, 25, 100, 5);
        x.stand(3, 0);
        x.fill(0);
        x.stand(4, 2);
        x.fill(2);
        x.stand(5, 4);
        x.fill(4);
        C.due("three are not in OFFICE", x.seat(), 3);
        x.pass(10);
        C.due("their PRYTANY", x.council(3), 0);
        int first = x.council(2);
        for (int k = 0; k < 3; k++) x.sue(6, k, 1, 4, 5);
        for (int k = 0; k < 3; k++) x.sue(k, 6, 0, 4, 5);
        C.due("tried", x.court(), 3);
        state("all are OUT", x, 0, 0, -1, 0, 0);
        x.pass(1);
        C.due("tried then", x.court(), 3);
        int chair = -1;
        for (int k = 0; k < 30 && chair == -1; k++) {
            chair = foretold(x, first);
            if (chair == -1) C.due("nobody to be seated", x.seat(), 0);
        }
        for (int k = 0; k < 3; k++) C.due("PAYS", x.pay(k), 4);
        x.seat();
        C.due("seated", x.council(0), 3);
        C.due("one who was not CHAIR yet", x.council(2), chair);
    }

    /** CHAIR by a seating now, if TRIBE 0 would have the PRYTANY 1; otherwise -1. */
    private static int foretold(Kleroterion x, int first) {
        Checks.Luck luck = new Checks.Luck(x);
        luck.draw(1);
        boolean isLater = luck.draw(4) > 0;
        int second = luck.draw(3);
        luck.draw(2);
        int[] others = {first == 0 ? 1 : 0, first == 2 ? 1 : 2};
        return isLater && second == 0 ? others[luck.draw(2)] : -1;
    }

    public static void main(String[] args) {
        aYear();
        whoIsEligible();
        machine();
        seatedAnew();
        Kleroterion x = Checks.overthrown();
        C.noState("the people do not rule", x, x::seat);
        state("none then", x, 0, 0, -1, 1, 0);
        C.end();
    }
}
