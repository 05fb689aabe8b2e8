import java.util.ArrayList;
import java.util.List;

/** Section 2 and promises 8 and 9, sentence by sentence: who is drawn, the order of TRIBES, CHAIR. */
public final class EdgesCouncilTest {
    private static final Checks C = new Checks();

    /** One of 4, one of the 3 that are left (by their order), one of 2; of the last one nothing is DRAWN. */
    private static int[] order(Checks.Luck luck) {
        List<Integer> left = new ArrayList<>(List.of(0, 1, 2, 3));
        int[] order = new int[4];
        for (int k = 0; k < 4; k++) order[k] = left.remove(k < 3 ? luck.draw(4 - k) : 0);
        return order;
    }

    /** By the order that was DRAWN last; each LUCK, each PRYTANY. */
    private static void orders() {
        boolean[] isFirst = new boolean[4];
        boolean[] isLast = new boolean[4];
        for (int k = 1; k <= 64; k++) {
            Kleroterion x = new Kleroterion();
            for (int s = 1; s < k; s++) x.seat();
            int[] due = order(new Checks.Luck(x));
            C.due("2: nobody", x.seat(), 0);
            C.due("2: of the last one nothing is DRAWN", x.city(4), 3 * k);
            for (int prytany = 0; prytany < 4; prytany++) {
                C.due("2: the TRIBE of PRYTANY " + prytany, x.council(3), due[prytany]);
                x.pass(9);
                C.due("2: on its last DAY", x.council(3), due[prytany]);
                if (prytany < 3) x.pass(1);
            }
            isFirst[due[0]] = true;
            isLast[due[3]] = true;
            int[] next = order(new Checks.Luck(x));
            x.pass(1);
            C.due("2: an order anew as a YEAR begins", x.council(3), next[0]);
        }
        for (int t = 0; t < 4; t++) C.due("2: each TRIBE comes first, and last", isFirst[t] && isLast[t], true);
    }

    /** NONE ahead of any order; by a seating the TRIBE of the PRYTANY that is. */
    private static void ahead() {
        Kleroterion x = new Kleroterion();
        C.due("9: no order on DAY 0", x.council(3), -1);
        x.pass(15);
        C.due("9: nor on DAY 15", x.council(3), -1);
        C.due("9: no CHAIR", x.council(2), -1);
        int[] due = order(new Checks.Luck(x));
        x.seat();
        C.due("9: the PRYTANY 1", x.council(3), due[1]);
        int[] later = order(new Checks.Luck(x));
        x.seat();
        C.due("9: DRAWN last", x.council(3), later[1]);
        for (int what : new int[] {-1, 5, Integer.MIN_VALUE, Integer.MAX_VALUE}) C.noArgument("9: " + what, x, () -> x.council(what));
    }

    /** TRIBE by TRIBE 1 ROW: of two ROWS in each TRIBE twelve in all. */
    private static void fourTribes() {
        Kleroterion x = new Kleroterion();
        for (int k = 0; k < 24; k++) x.enroll(k / 6, 40, 0, 5);
        Checks.Luck luck = new Checks.Luck(x);
        int[] rows = new int[4];
        for (int t = 0; t < 4; t++) {
            rows[t] = luck.draw(2) == 0 ? 0 : 1;
            luck.draw(1);
        }
        int[] order = order(luck);
        int chair = luck.draw(3);
        C.due("8: twelve", x.seat(), 12);
        for (int c = 0; c < 24; c++) C.citizen("2: TAKEN", x, c, 11, c % 6 / 3 == rows[c / 6] ? 1 : 0);
        int first = order[0] * 6 + rows[order[0]] * 3;
        int[] due = {12, 3, first + chair, order[0], 15};
        for (int k = 0; k < 5; k++) C.due("9: council " + k, x.council(k), due[k]);
        // those who were not CHAIR yet, in their order
        List<Integer> left = new ArrayList<>(List.of(first, first + 1, first + 2));
        left.remove(chair);
        for (int k = 0; k < 2; k++) {
            int next = left.remove(luck.draw(left.size()));
            x.pass(1);
            C.due("2: another CHAIR", x.council(2), next);
        }
        for (int k = 0; k < 7; k++) {
            x.pass(1);
            C.due("2: all were CHAIR", x.council(2), -1);
        }
        int draws = 8 + 3 + 3;
        C.due("2: nothing is DRAWN of nobody", x.city(4), draws);
        x.pass(1);
        C.due("2: the next PRYTANY", x.council(3), order[1]);
        C.due("2: has a CHAIR", x.ofCitizen(x.council(2), 1), order[1]);
        for (int c = 0; c < 24; c++) C.citizen("2: counted", x, c, 9, c % 6 / 3 == rows[c / 6] ? 1 : 0);
    }

    /** Who was not CHAIR yet in this PRYTANY: in the next YEAR each can be so again. */
    private static void chairAgain() {
        Kleroterion x = Checks.three();
        x.seat();
        for (int year = 0; year < 2; year++) {
            int[] times = new int[3];
            for (int d = 0; d < 40; d++) {
                if (x.council(2) != -1) times[x.council(2)]++;
                x.pass(1);
            }
            for (int k = 0; k < 3; k++) C.due("2: CHAIR once in its PRYTANY", times[k], 1);
        }
        C.due("2: twice in the COUNCIL is enough", x.council(0), 0);
        for (int k = 0; k < 3; k++) C.citizen("2: counted", x, k, 9, 2);
    }

    /** Those who are FULL, not BARRED, 30 or older, in no OFFICE, and were in it less than twice. */
    private static void ages() {
        for (int age = 29; age <= 30; age++) {
            Kleroterion x = Checks.three();
            x.enroll(1, 40, 0, 5);
            x.enroll(1, age, 0, 5);
            x.enroll(1, 40, 0, 5);
            C.due("2: one is " + age, x.seat(), age == 29 ? 3 : 6);
            C.due("9: TRIBES", x.council(4), age == 29 ? 1 : 3);
        }
    }

    /** BARRED up to DAY 40, or 41. */
    private static void barred() {
        for (int day = 0; day <= 1; day++) {
            Kleroterion x = Checks.three();
            for (int k = 0; k < 3; k++) x.enroll(1, 40, 100, 5);
            x.enroll(2, 20, 0, 5);
            if (day > 0) x.pass(day);
            x.sue(3, 6, 1, 10, 15);
            x.court();
            C.citizen("7: BARRED", x, 3, 8, 40 + day);
            C.citizen("1: FULL", x, 3, 6, 1);
            C.due("2: one is BARRED", x.seat(), 3);
            x.pass(40 - day);
            C.due("2: BARRED up to " + (40 + day), x.council(0), day == 0 ? 6 : 3);
        }
    }

    private static void inOffice() {
        Kleroterion x = Checks.three();
        x.stand(2, 0);
        C.due("2: who stands is eligible", x.seat(), 3);
        Kleroterion y = Checks.three();
        y.stand(2, 0);
        y.fill(0);
        C.due("2: who is in OFFICE is not", y.seat(), 0);
        C.due("9: but there is an order", y.council(3) >= 0, true);
    }

    private static void whoWaits() {
        Kleroterion x = Checks.three();
        x.enroll(1, 40, 0, 5);
        x.enroll(1, 40, 0, 5);
        x.enroll(1, 40, 0, 15);
        C.citizen("1: WAITS", x, 5, 6, 0);
        C.due("2: who WAITS is not eligible", x.seat(), 3);
    }

    /** Refused with anybody in the COUNCIL (one is enough), or if the people do not rule. */
    private static void seatRefused() {
        Kleroterion x = new Kleroterion();
        for (int k = 0; k < 3; k++) x.enroll(0, 40, 100, 5);
        for (int k = 0; k < 3; k++) x.enroll(1, 40, k == 0 ? 100 : 0, 5);
        x.enroll(2, 20, 100, 5);
        for (int k = 0; k < 3; k++) {
            x.stand(k, k == 0 ? 0 : k == 1 ? 2 : 3);
            x.fill(k == 0 ? 0 : k == 1 ? 2 : 3);
        }
        C.due("8: seat", x.seat(), 3);
        for (int k = 4; k < 6; k++) x.sue(6, k, 1, 10, 5);
        C.due("7: tried", x.court(), 2);
        C.due("1: one is left", x.council(0), 1);
        C.noState("8: anybody is in it", x, x::seat);
        x.pass(1);
        x.sue(6, 3, 1, 200, 5);
        C.due("7: tried", x.court(), 1);
        C.due("1: nobody is left", x.council(0), 0);
        C.due("9: no TRIBES", x.council(4), 0);
        C.due("8: so it is seated, with nobody", x.seat(), 0);
        Kleroterion y = Checks.overthrown();
        C.noState("8: the people do not rule", y, y::seat);
    }

    /** As a YEAR begins without the people's rule nothing is drawn; the order stays as it was DRAWN last. */
    private static void withoutRule() {
        Kleroterion x = Checks.overthrown();
        int draws = x.city(4);
        int[] due = new int[4];
        for (int p = 1; p < 4; p++) {
            due[p] = x.council(3);
            x.pass(10);
        }
        C.due("2: YEAR 1", x.city(1), 1);
        C.due("2: no COUNCIL", x.council(0), 0);
        C.due("2: nothing is DRAWN", x.city(4), draws);
        x.pass(10);
        C.due("9: the order of the YEAR ahead", x.council(3), due[1]);
        C.due("14: the people rule again", x.rise(5, true), true);
        C.due("2: no COUNCIL by that", x.council(0), 0);
        C.due("8: seat", x.seat(), 3);
        C.citizen("2: counted", x, 0, 9, 2);
    }

    public static void main(String[] args) {
        orders();
        ahead();
        fourTribes();
        chairAgain();
        ages();
        barred();
        inOffice();
        whoWaits();
        seatRefused();
        withoutRule();
        C.end();
    }
}
