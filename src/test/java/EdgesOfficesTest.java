import java.util.ArrayList;
import java.util.List;

/** Section 4 and promises 16 to 18, sentence by sentence: FIT ones, by lot, by votes, CONFIDENCE, accounts. */
public final class EdgesOfficesTest {
    private static final Checks C = new Checks();
    private static final int[] FAR = {Integer.MIN_VALUE, Integer.MAX_VALUE};

    /** One of DEME 4 (TRIBE 0) alone, of that AGE and WEALTH: for which OFFICES is that one FIT? */
    private static void fit(int deme, int age, int wealth, int... due) {
        for (int office = 0; office < 7; office++) {
            Kleroterion x = new Kleroterion();
            x.enroll(deme, age, wealth, 5);
            int o = office;
            String call = "4: AGE " + age + ", WEALTH " + wealth + ", DEME " + deme + " for " + office;
            if (due[office] == 1) C.due(call, x.stand(0, o), 1);
            else C.noState(call, x, () -> x.stand(0, o));
        }
    }

    /** 30 or older; CLASS 3 for 1; CLASS 1 or more, and of that TRIBE, for 3 to 6. */
    private static void fitness() {
        fit(4, 29, 300, 0, 0, 0, 0, 0, 0, 0);
        fit(4, 30, 300, 1, 1, 1, 1, 0, 0, 0);
        fit(4, 30, 120, 1, 1, 1, 1, 0, 0, 0);
        fit(4, 30, 119, 1, 0, 1, 1, 0, 0, 0);
        fit(5, 30, 20, 1, 0, 1, 0, 1, 0, 0);
        fit(6, 30, 20, 1, 0, 1, 0, 0, 1, 0);
        fit(7, 70, 20, 1, 0, 1, 0, 0, 0, 1);
        fit(3, 30, 19, 1, 0, 1, 0, 0, 0, 0);
        fit(0, 30, 0, 1, 0, 1, 0, 0, 0, 0);
    }

    /** FULL, not BARRED, without an OFFICE; once; at most 6; it has to be empty. */
    private static void standRefused() {
        Kleroterion x = Checks.three();
        x.enroll(1, 40, 100, 5);
        x.enroll(2, 40, 0, 5);
        x.enroll(0, 40, 0, 15);
        x.enroll(0, 40, 0, 15);
        x.enroll(3, 70, 0, 5);
        x.appeal(6);
        x.sue(3, 4, 1, 1, 5);
        x.sue(3, 4, 1, 1, 15);
        C.due("7: tried", x.court(), 2);
        C.noState("4: BARRED", x, () -> x.stand(3, 0));
        C.noState("4: OUT", x, () -> x.stand(4, 0));
        C.noState("4: WAITS", x, () -> x.stand(5, 0));
        C.noState("4: STRUCK", x, () -> x.stand(6, 0));
        C.due("4: stands for two", x.stand(0, 0) + x.stand(0, 2), 2);
        C.noState("16: stands for it already", x, () -> x.stand(0, 0));
        C.due("4: in OFFICE", x.fill(0), 0);
        C.noState("4: it is not empty", x, () -> x.stand(1, 0));
        C.noState("4: has an OFFICE", x, () -> x.stand(0, 3));
        C.due("4: stands for the other one still", x.ofOffice(2, 1), 1);
        C.noIndex("16: no such CITIZEN", x, () -> x.stand(8, 0));
        C.noIndex("16: no such OFFICE", x, () -> x.stand(5, 7));
        C.noIndex("16: below 0", x, () -> x.stand(-1, 0));
        C.noIndex("16: below 0", x, () -> x.stand(0, -1));
        for (int far : FAR) C.noIndex("16: far", x, () -> x.stand(far, 0));
        for (int far : FAR) C.noIndex("16: far", x, () -> x.stand(0, far));
        x.pass(39);
        C.noState("1: BARRED on DAY 39", x, () -> x.stand(3, 0));
        x.pass(1);
        C.due("1: not on DAY 40", x.stand(3, 0), 1);
        for (int k = 0; k < 4; k++) x.pass(40);
        C.noState("4: DEAD", x, () -> x.stand(7, 0));
        Kleroterion y = new Kleroterion();
        y.found(8, 20);
        y.pass(20);
        int exile = y.sherds();
        C.due("11: one is EXILED", exile >= 0, true);
        C.noState("4: EXILED", y, () -> y.stand(exile, 0));
    }

    private static void six() {
        Kleroterion x = new Kleroterion();
        for (int k = 0; k < 7; k++) x.enroll(k % 2 * 4, 40, 50, 5);
        for (int k = 0; k < 6; k++) C.due("16: stand then", x.stand(k, 3), k + 1);
        C.noState("4: at most 6", x, () -> x.stand(6, 3));
        C.due("4: of another one", x.stand(6, 0), 1);
        C.due("18: how many", x.ofOffice(3, 1), 6);
        x.fill(3);
        C.due("4: nobody stands any more", x.ofOffice(3, 1), 0);
        C.due("18: for the other one still", x.ofOffice(0, 1), 1);
    }

    /** Without the people's rule one stands, and those who stood stand on; nobody FILLS. */
    private static void withoutRule() {
        Kleroterion x = Checks.overthrown();
        C.due("16: stands", x.stand(0, 0), 1);
        C.noState("17: the people do not rule", x, () -> x.fill(0));
        C.noState("17: nor with nobody who stands", x, () -> x.fill(1));
        C.noIndex("17: no such OFFICE, ahead of that", x, () -> x.fill(7));
        x.pass(10);
        C.due("14: stands on", x.ofOffice(0, 1), 1);
        x.rise(5, true);
        C.due("17: FILLS", x.fill(0), 0);
    }

    /** By lot, in the order in which they stood: those who are not accepted are taken off one by one. */
    private static void byLot() {
        boolean[] isTold = new boolean[5];
        for (int k = 0; k < 24; k++) {
            Kleroterion x = new Kleroterion();
            for (int s = 0; s < k; s++) x.seat();
            for (int c = 0; c < 3; c++) x.enroll(0, 40, 100, 5);
            // the COUNCIL (VIEWS 5) AGREES with the last one alone
            int[] views = {15, 14, 13, 12, 0};
            for (int c = 0; c < 5; c++) x.enroll(1 + c, 40, 100, views[c]);
            x.seat();
            List<Integer> stand = new ArrayList<>(List.of(7, 3, 5, 0, 4, 6));
            for (int c : stand) x.stand(c, 2);
            Checks.Luck luck = new Checks.Luck(x);
            int before = x.city(4);
            int draws = 0;
            int next = -1;
            while (next != 7) {
                next = stand.remove(luck.draw(stand.size()));
                draws++;
            }
            C.due("4: the first one who is accepted", x.fill(2), 7);
            C.due("4: one DRAW for each who was taken", x.city(4) - before, draws);
            C.due("4: nobody stands any more", x.ofOffice(2, 1), 0);
            if (draws <= 5) isTold[draws - 1] = true;
        }
        C.due("4: at once, and later", isTold[0] && isTold[1] && isTold[2], true);
    }

    /** One who stands is looked at: not BARRED, OUT, or poorer by now; not with an OFFICE by now. */
    private static void fitByNow() {
        Kleroterion x = Checks.three();
        x.enroll(1, 40, 120, 5);
        x.enroll(2, 40, 20, 5);
        x.enroll(3, 40, 20, 5);
        x.enroll(5, 20, 100, 5);
        x.stand(3, 1);
        x.stand(3, 4);
        x.stand(4, 5);
        x.stand(5, 6);
        x.stand(5, 0);
        x.sue(6, 3, 1, 1, 5);
        x.sue(6, 4, 1, 1, 5);
        x.sue(6, 5, 1, 21, 5);
        C.due("7: tried", x.court(), 3);
        C.citizen("1: CLASS 2 by now", x, 3, 5, 2);
        C.citizen("1: CLASS 0 by now", x, 4, 5, 0);
        C.citizen("1: OUT by now", x, 5, 6, 2);
        C.due("4: CLASS 2 for 1", x.fill(1), -1);
        C.due("4: CLASS 0 for 5", x.fill(5), -1);
        C.due("4: OUT for 6", x.fill(6), -1);
        C.due("4: OUT for 0", x.fill(0), -1);
        C.due("4: CLASS 2 for 4", x.fill(4), 3);
        x.stand(0, 0);
        x.stand(0, 2);
        C.due("4: in OFFICE 0", x.fill(0), 0);
        C.due("4: so not in 2 too", x.fill(2), -1);
        C.due("4: stands for nothing then", x.ofOffice(2, 1), 0);
        C.citizen("4: nobody has two", x, 0, 10, 0);
    }

    /** By votes: the one with whose VIEW most of the FULL ones AGREE; of several the one who stood first. */
    private static void byVotes() {
        Kleroterion x = new Kleroterion();
        x.enroll(0, 40, 50, 0);
        x.enroll(4, 40, 50, 15);
        x.enroll(4, 40, 50, 10);
        x.enroll(1, 20, 0, 15);
        x.enroll(2, 20, 0, 15);
        x.enroll(3, 20, 0, 15);
        x.enroll(5, 20, 0, 0);
        x.enroll(6, 20, 0, 0);
        C.due("1: all are FULL", x.city(6), 8);
        x.stand(0, 3);
        x.stand(2, 3);
        x.stand(1, 3);
        C.due("4: 3 for VIEW 0, 5 for 10 and 15, who stood first", x.fill(3), 2);
        C.due("4: nothing is DRAWN", x.city(4), 0);
        Kleroterion last = new Kleroterion();
        int[] views = {0, 0, 0, 5, 5, 10};
        for (int k = 0; k < 6; k++) last.enroll(k == 5 ? 4 : 0, 40, 50, views[k]);
        C.due("1: all are FULL", last.city(6), 6);
        for (int c : new int[] {5, 0, 1, 2, 3}) last.stand(c, 3);
        C.due("4: all AGREE with the one who stood last", last.fill(3), 3);
        Kleroterion y = new Kleroterion();
        y.enroll(0, 40, 50, 0);
        y.enroll(4, 40, 50, 15);
        y.stand(1, 3);
        y.stand(0, 3);
        C.due("4: one each, the own one", y.fill(3), 1);
        Kleroterion z = Checks.three();
        z.enroll(1, 40, 50, 15);
        z.enroll(5, 40, 50, 5);
        z.enroll(2, 20, 0, 15);
        z.enroll(3, 20, 0, 15);
        z.enroll(6, 20, 0, 15);
        z.enroll(7, 20, 0, 15);
        z.stand(3, 4);
        z.stand(4, 4);
        for (int k = 5; k < 8; k++) z.sue(0, k, 1, 1, 5);
        z.court();
        C.due("5: no JURY without 0", z.jury(0), 0);
        z.pass(1);
        for (int k = 5; k < 8; k++) z.sue(4, k, 1, 1, 5);
        C.due("7: tried", z.court(), 3);
        C.citizen("1: OUT", z, 5, 6, 2);
        C.due("4: OUT ones have no vote: 4 for VIEW 5, 2 for VIEW 15", z.fill(4), 4);
    }

    /** The next one by votes is taken, till nobody stands; more than half of the COUNCIL, and not in it. */
    private static void looking() {
        Kleroterion x = Checks.three();
        for (int k = 0; k < 3; k++) x.enroll(1, 40, 50, 15);
        x.enroll(4, 40, 50, 5);
        x.enroll(4, 40, 50, 9);
        x.enroll(4, 40, 50, 10);
        for (int k = 0; k < 3; k++) x.enroll(2, 20, 0, 4);
        C.due("1: all are FULL", x.city(6), 12);
        C.due("8: seat", x.seat(), 6);
        for (int c : new int[] {0, 6, 7}) x.stand(c, 3);
        C.due("4: of the COUNCIL, and half of it twice", x.fill(3), -1);
        C.due("4: nobody stands", x.ofOffice(3, 1), 0);
        for (int c : new int[] {6, 7, 8}) x.stand(c, 3);
        C.due("4: six of six AGREE with 10", x.fill(3), 8);
        x.stand(0, 0);
        x.stand(3, 0);
        C.due("4: COUNCILLORS alone", x.fill(0), -1);
        for (int tribe = 1; tribe <= 2; tribe++) {
            Kleroterion nine = Checks.three();
            for (int k = 3; k < 9; k++) nine.enroll(k < 6 ? 1 : 2, 40, 50, k / 3 == tribe ? 15 : 5);
            nine.enroll(3, 40, 50, 5);
            nine.enroll(7, 40, 50, 15);
            C.due("8: seat", nine.seat(), 9);
            nine.stand(10, 2);
            C.due("4: three of nine", nine.fill(2), -1);
            nine.stand(9, 2);
            C.due("4: six of nine", nine.fill(2), 9);
        }
        Kleroterion y = Checks.three();
        y.enroll(4, 40, 50, 15);
        y.stand(3, 0);
        C.due("4: always without a COUNCIL", y.fill(0), 3);
        Kleroterion z = Checks.three();
        z.enroll(4, 40, 50, 15);
        z.seat();
        z.stand(3, 0);
        C.due("4: with one of VIEWS 5 not", z.fill(0), -1);
    }

    private static void fillRefused() {
        Kleroterion x = Checks.three();
        C.due("17: nobody stands", x.fill(6), -1);
        for (int office : new int[] {-1, 7, FAR[0], FAR[1]}) C.noIndex("17: OFFICE " + office, x, () -> x.fill(office));
        for (int office : new int[] {-1, 7, FAR[0], FAR[1]}) C.noIndex("18: OFFICE " + office, x, () -> x.ofOffice(office, 4));
        for (int what : new int[] {-1, 4, FAR[0], FAR[1]}) C.noArgument("18: what " + what, x, () -> x.ofOffice(6, what));
        x.stand(0, 0);
        x.fill(0);
        C.noState("17: it is not empty", x, () -> x.fill(0));
        x.pass(5);
        x.stand(1, 3);
        x.fill(3);
        int[] due = {1, 0, 5, 0};
        for (int k = 0; k < 4; k++) C.due("18: on the DAY 5, " + k, x.ofOffice(3, k), due[k]);
        x.pass(1);
        C.due("18: DAY less the DAY from which on", x.ofOffice(3, 3), 1);
        C.due("18: of the other one", x.ofOffice(0, 3), 6);
        x.pass(34);
        int[] empty = {-1, 0, -1, 0};
        for (int k = 0; k < 4; k++) C.due("18: empty, " + k, x.ofOffice(3, k), empty[k]);
    }

    /** VIEWS 0 (archon), 15 (clerk), 15, 7, 7: half of those who are FULL by then is enough. */
    private static void confidence(int wealth) {
        Kleroterion x = new Kleroterion();
        int[] views = {0, 15, 15, 7, 7};
        for (int k = 0; k < 5; k++) x.enroll(k, 40, k == 0 ? wealth : 50, views[k]);
        x.stand(0, 0);
        x.stand(1, 2);
        x.fill(0);
        x.fill(2);
        x.pass(9);
        Checks.tillDrawn(x, 8, 0);
        C.due("4: in OFFICE till the PRYTANY begins", x.ofOffice(0, 0), 0);
        x.pass(1);
        C.due("4: 2 times 1 is less than 5", x.ofOffice(0, 0), -1);
        C.citizen("4: a tenth of 10 DAYS", x, 0, 4, wealth - Math.min(1, wealth));
        C.citizen("1: STATUS", x, 0, 6, wealth == 0 ? 2 : 1);
        C.due("4: 2 times 2 is less than 5, not than 4", x.ofOffice(2, 0), wealth == 0 ? 1 : -1);
        C.due("0: 2 for each that is filled then", x.money(8), wealth == 0 ? 2 : 0);
    }

    /** At the PRYTANIES 1, 2, 3; not in between. */
    private static void confidenceDays() {
        for (int prytany = 1; prytany <= 3; prytany++) {
            Kleroterion x = new Kleroterion();
            x.enroll(0, 40, 50, 5);
            x.enroll(1, 40, 50, 5);
            x.stand(0, 0);
            x.fill(0);
            x.pass(10 * prytany - 5);
            x.enroll(2, 40, 50, 15);
            x.enroll(3, 40, 50, 15);
            x.pass(4);
            C.due("4: in OFFICE on DAY " + x.city(0), x.ofOffice(0, 0), 0);
            x.pass(1);
            C.due("4: two of four are half", x.ofOffice(0, 0), 0);
            Kleroterion y = new Kleroterion();
            y.enroll(0, 40, 50, 5);
            y.stand(0, 0);
            y.fill(0);
            y.pass(10 * prytany - 5);
            for (int k = 1; k < 3; k++) y.enroll(k, 40, 50, 15);
            y.pass(4);
            C.due("4: in OFFICE on DAY " + y.city(0), y.ofOffice(0, 0), 0);
            y.pass(1);
            C.due("4: one of three is less than half", y.ofOffice(0, 0), -1);
        }
    }

    /** Those who AGREE with the VIEW of who is in it: 5 and 10 do, 5 and 11 do not, 10 and 5 do, 10 and 4 do not. */
    private static void confidenceViews() {
        int[][] due = {{5, 10, 1}, {5, 11, 0}, {10, 5, 1}, {10, 4, 0}};
        for (int[] d : due) {
            Kleroterion x = new Kleroterion();
            x.enroll(0, 40, 50, d[0]);
            for (int k = 1; k < 3; k++) x.enroll(k, 20, 50, d[1]);
            x.stand(0, 0);
            x.fill(0);
            x.pass(10);
            C.due("4: in OFFICE with VIEWS " + d[0] + " and " + d[1], x.ofOffice(0, 0), d[2] == 1 ? 0 : -1);
        }
    }

    /** First step: one of 8 is DRAWN; with 0 a tenth of HANDLED is a FINE; each LUCK. */
    private static void firstStep() {
        int fined = 0;
        for (int k = 0; k < 64; k++) {
            Kleroterion x = new Kleroterion();
            x.enroll(0, 40, 100, 5);
            x.stand(0, 3);
            x.fill(3);
            for (int s = 0; s < k; s++) x.seat();
            boolean isFined = new Checks.Luck(x).draw(8) == 0;
            fined += isFined ? 1 : 0;
            x.pass(40);
            C.citizen("4: a tenth of 40 DAYS, or nothing", x, 0, 4, isFined ? 96 : 100);
            C.due("4: one DRAW, and the order", x.city(4), 3 * k + 1 + 3);
        }
        C.due("4: one of 8", fined, 8);
    }

    /** A tenth, rounded: of 9 DAYS nothing, of 10 one, of 19 one, of 20 two. */
    private static void tenths() {
        for (int days : new int[] {0, 9, 10, 19, 20, 40}) {
            Kleroterion x = new Kleroterion();
            x.enroll(0, 40, 100, 5);
            if (days < 40) x.pass(39 - days + (days == 0 ? 0 : 1));
            x.stand(0, 3);
            x.fill(3);
            int handled = 40 - x.city(0);
            if (x.city(0) < 39) x.pass(39 - x.city(0));
            Checks.tillDrawn(x, 8, 0);
            x.pass(1);
            C.citizen("4: a tenth of " + handled, x, 0, 4, 100 - handled / 10);
        }
    }

    /** Second step: up to 10 DAYS later (DUE), that DAY too, that one can be sued for it. */
    private static void due() {
        Kleroterion x = new Kleroterion();
        x.enroll(0, 40, 50, 5);
        x.enroll(1, 40, 50, 5);
        C.noState("4: no account at first", x, () -> x.sue(1, 0, 3, 1, 5));
        x.stand(0, 0);
        x.fill(0);
        C.noState("4: nor in OFFICE", x, () -> x.sue(1, 0, 3, 1, 5));
        x.pass(40);
        C.due("4: on the DAY", x.sue(1, 0, 3, 1, 5), 0);
        x.pass(10);
        C.due("4: 10 DAYS later", x.sue(1, 0, 3, 1, 5), 1);
        x.pass(1);
        C.noState("4: 11 DAYS later", x, () -> x.sue(1, 0, 3, 1, 5));
    }

    /** Of two accounts of one the later DUE counts: out on DAY 10 and on DAY 20. */
    private static void twoAccounts() {
        Kleroterion x = new Kleroterion();
        x.enroll(0, 40, 50, 0);
        x.enroll(1, 40, 50, 15);
        x.enroll(2, 40, 50, 15);
        x.stand(0, 0);
        x.fill(0);
        x.pass(10);
        C.due("4: out", x.ofOffice(0, 0), -1);
        x.stand(0, 2);
        C.due("4: in again", x.fill(2), 0);
        x.pass(10);
        C.due("4: out again", x.ofOffice(2, 0), -1);
        x.pass(1);
        C.due("4: behind the first DUE", x.sue(1, 0, 3, 1, 5), 0);
        x.pass(9);
        C.due("4: on the later DUE", x.sue(1, 0, 3, 1, 5), 1);
        x.pass(1);
        C.noState("4: behind it", x, () -> x.sue(1, 0, 3, 1, 5));
    }

    /** HANDLED of the treasurer: what the TREASURY took in and paid out since; of others the DAYS. */
    private static void handled() {
        Kleroterion x = Checks.three();
        x.enroll(1, 40, 200, 5);
        x.enroll(2, 40, 50, 5);
        x.enroll(6, 20, 100, 5);
        x.enroll(3, 20, 0, 5);
        x.sue(5, 4, 1, 10, 5);
        x.court();
        C.due("27: took in, and paid out", x.money(7) * 100 + x.money(8), 1003);
        x.stand(3, 1);
        x.stand(4, 5);
        x.fill(1);
        x.fill(5);
        C.due("18: nothing so far", x.ofOffice(1, 3), 0);
        x.pass(3);
        C.due("18: nothing by DAYS", x.ofOffice(1, 3), 0);
        C.due("18: DAYS", x.ofOffice(5, 3), 3);
        x.sue(5, 4, 1, 7, 5);
        x.court();
        C.due("18: 7 in, 3 out", x.ofOffice(1, 3), 10);
        x.pass(7);
        C.due("18: 4 more for OFFICES", x.ofOffice(1, 3), 14);
    }

    public static void main(String[] args) {
        fitness();
        standRefused();
        six();
        withoutRule();
        byLot();
        fitByNow();
        byVotes();
        looking();
        fillRefused();
        confidence(0);
        confidence(1);
        confidenceDays();
        confidenceViews();
        firstStep();
        tenths();
        due();
        twoAccounts();
        handled();
        C.end();
    }
}
