/** Section 0, sentence by sentence: the calendar, LUCK, the MACHINE, how a DAY begins, TREASURY and UNREST. */
public final class EdgesDaysTest {
    private static final Checks C = new Checks();

    /** YEAR is DAY / 40; a YEAR has 4 PRYTANIES of 10 DAYS: the first and the last DAY of each. */
    private static void calendar() {
        int[][] due = {{0, 0, 0}, {9, 0, 0}, {10, 0, 1}, {19, 0, 1}, {20, 0, 2}, {29, 0, 2}, {30, 0, 3},
            {39, 0, 3}, {40, 1, 0}, {49, 1, 0}, {50, 1, 1}, {79, 1, 3}, {80, 2, 0}};
        Kleroterion x = new Kleroterion();
        for (int[] d : due) {
            if (d[0] > x.city(0)) x.pass(d[0] - x.city(0));
            for (int k = 0; k < 3; k++) C.due("0: DAY, YEAR, PRYTANY of DAY " + d[0] + ", " + k, x.city(k), d[k]);
        }
    }

    /** DAY is 400 at most. */
    private static void lastDay() {
        Kleroterion x = new Kleroterion();
        for (int k = 0; k < 9; k++) x.pass(40);
        C.due("0: DAY", x.pass(1), 361);
        C.noState("0: 361 and 40", x, () -> x.pass(40));
        C.due("0: 361 and 39", x.pass(39), 400);
        C.noState("0: 400 and 1", x, () -> x.pass(1));
        C.noState("0: 400 and 40", x, () -> x.pass(40));
        C.due("0: YEAR of DAY 400", x.city(1), 10);
        Kleroterion y = new Kleroterion();
        for (int k = 0; k < 10; k++) C.due("0: ten YEARS", y.pass(40), 40 * k + 40);
        C.due("0: the BELL rings on the last DAY too", y.bell(), 1);
        C.due("0: one is enrolled then too", y.enroll(0, 30, 0, 0), 0);
    }

    /** LUCK is 0 at first; it becomes (13 * LUCK + 5) modulo 64; DRAWS are counted. */
    private static void luck() {
        Kleroterion x = new Kleroterion();
        C.due("0: LUCK at first", x.city(3), 0);
        C.due("0: DRAWS at first", x.city(4), 0);
        int[] due = {19, 34, 29};
        for (int k = 0; k < 3; k++) {
            x.seat();
            C.due("0: LUCK behind DRAWS of 4, 3, 2", x.city(3), due[k]);
            C.due("0: DRAWS", x.city(4), 3 * k + 3);
        }
        for (int k = 3; k < 64; k++) x.seat();
        C.due("0: LUCK behind 192 DRAWS is 0 again", x.city(3), 0);
        C.due("0: 192 DRAWS", x.city(4), 192);
    }

    /** To DRAW one of n, n being 1: it is a DRAW, of 0. Of nobody nothing is DRAWN. */
    private static void drawOfOne() {
        Kleroterion x = new Kleroterion();
        C.due("0: nobody stands", x.fill(0), -1);
        C.due("0: nothing is DRAWN of nobody", x.city(4), 0);
        C.due("0: LUCK stays", x.city(3), 0);
        x.enroll(0, 30, 0, 5);
        x.stand(0, 0);
        C.due("0: one of one", x.fill(0), 0);
        C.due("0: is DRAWN", x.city(4), 1);
        C.due("0: LUCK moves", x.city(3), 5);
    }

    /** LUCK * n / 64 is drawn (0 to n - 1): each LUCK, by who of six is DRAWN. */
    private static void eachLuck() {
        boolean[] isDrawn = new boolean[6];
        for (int k = 0; k < 64; k++) {
            Kleroterion x = new Kleroterion();
            for (int c = 0; c < 6; c++) x.enroll(c % 3, 40, 0, 5);
            for (int c = 0; c < 6; c++) x.stand(c, 2);
            for (int s = 0; s < k; s++) x.seat();
            int luck = (13 * x.city(3) + 5) % 64;
            int who = x.fill(2);
            C.due("0: of six with a LUCK of " + luck, who, luck * 6 / 64);
            C.due("0: LUCK by that", x.city(3), luck);
            isDrawn[who] = true;
        }
        for (int c = 0; c < 6; c++) C.due("0: each of 0 to n - 1 comes, " + c, isDrawn[c], true);
    }

    /** Each ticket goes into the COLUMN of its number modulo 3; ROWS are as many as in the shortest COLUMN. */
    private static void columns() {
        Kleroterion x = new Kleroterion();
        for (int k = 0; k < 5; k++) x.enroll(0, 40, 0, 5);
        C.due("0: five tickets, one ROW", x.seat(), 3);
        for (int k = 0; k < 5; k++) C.citizen("0: below the last ROW nobody is TAKEN", x, k, 11, k < 3 ? 1 : 0);
        C.due("0: one die, an order, maybe a CHAIR", x.city(4), x.council(1) > 0 ? 5 : 4);
        Kleroterion gap = new Kleroterion();
        for (int k = 0; k < 6; k++) gap.enroll(k % 3 == 1 ? 1 : 0, 40, 0, 5);
        C.due("0: an empty COLUMN, no ROW", gap.seat(), 0);
        C.due("0: so no die", gap.city(4), 3);
        Kleroterion later = new Kleroterion();
        for (int k = 0; k < 6; k++) later.enroll(0, k == 0 || k == 4 ? 20 : 40, 0, 5);
        C.due("0: tickets 1, 2, 3, 5 stand by their numbers", later.seat(), 3);
        for (int k = 0; k < 6; k++) C.citizen("0: ROW 3, 1, 2", later, k, 11, k == 1 || k == 2 || k == 3 ? 1 : 0);
        C.due("0: no tickets at all", new Kleroterion().seat(), 0);
    }

    /** One ROW wanted of one, two, three, four: for each ROW a die falls, behind the white one too. */
    private static void oneWanted() {
        for (int rows = 1; rows <= 4; rows++) {
            boolean[] isTaken = new boolean[rows];
            for (int k = 0; k < 16; k++) {
                Kleroterion x = new Kleroterion();
                for (int s = 0; s < k; s++) x.seat();
                for (int c = 0; c < 3 * rows; c++) x.enroll(0, 40, 0, 5);
                Checks.Luck luck = new Checks.Luck(x);
                int white = -1;
                for (int row = 0; row < rows; row++) if (luck.draw(rows - row) < (white == -1 ? 1 : 0)) white = row;
                C.due("0: one ROW", x.seat(), 3);
                for (int c = 0; c < 3 * rows; c++) C.citizen("0: ROW " + white, x, c, 11, c / 3 == white ? 1 : 0);
                C.due("0: a die for each ROW", x.city(4), 3 * k + rows + 3 + (x.council(1) > 0 ? 1 : 0));
                isTaken[white] = true;
            }
            for (int row = 0; row < rows; row++) C.due("0: each of " + rows + " ROWS comes, " + row, isTaken[row], true);
        }
    }

    /** VIEWS by ROWS: 0, 5, 15; a PROOF of 0 is of the first two, 10 of the last two, 15 of the last one. */
    private static void twoWanted() {
        int[] views = {0, 5, 15};
        for (int rows = 0; rows <= 3; rows++) {
            for (int k = 0; k < 16; k++) {
                for (int proof = 0; proof <= 15; proof += proof == 0 ? 10 : 5) {
                    Kleroterion x = new Kleroterion();
                    for (int s = 0; s < k; s++) x.seat();
                    for (int c = 0; c < 3 * rows; c++) x.enroll(c < 6 ? 0 : 4, 40, 0, views[c / 3]);
                    x.enroll(1, 20, 100, 5);
                    x.enroll(2, 20, 100, 5);
                    C.due("0: all are FULL", x.city(6), 3 * rows + 2);
                    x.sue(3 * rows, 3 * rows + 1, 1, 10, proof);
                    Checks.Luck luck = new Checks.Luck(x);
                    int white = Math.min(2, rows);
                    int many = 3 * white;
                    int votes = 0;
                    for (int row = 0; row < rows; row++) {
                        if (luck.draw(rows - row) >= white) continue;
                        white--;
                        if (Math.abs(views[row] - proof) <= 5) votes += 3;
                    }
                    x.court();
                    C.due("0: two of " + rows + " ROWS (all, if there are not more)", x.jury(0), many);
                    C.due("0: those who were TAKEN", x.jury(1), votes);
                    C.due("0: a die for each ROW", x.city(4), 3 * k + rows);
                }
            }
        }
    }

    /** One AGREES with a LEAN, if VIEW and LEAN differ by 5 or less; 15 and 0 differ by 15. */
    private static void agrees() {
        int[][] due = {{0, 0, 5}, {1, 0, 6}, {4, 0, 9}, {5, 0, 10}, {6, 1, 11}, {10, 5, 15}, {11, 6, 15}, {15, 10, 15}};
        for (int[] d : due) {
            for (int lean = 0; lean <= 15; lean++) {
                Kleroterion x = new Kleroterion();
                x.enroll(0, 40, 0, d[0]);
                x.pass(1);
                x.move(0, 0, 0, lean, 0);
                C.due("0: VIEW " + d[0] + ", LEAN " + lean, x.would(0), lean >= d[1] && lean <= d[2] ? 1 : -1);
            }
        }
    }

    /** DAY 0 is there without that: no BURDENS, no COUNCIL; those come as the YEAR 1 begins, not a DAY sooner. */
    private static void dayZero() {
        Kleroterion x = Checks.three();
        x.enroll(1, 40, 120, 5);
        C.due("0: no BURDEN on DAY 0", x.ofCitizen(3, 12), 0);
        C.due("0: no COUNCIL on DAY 0", x.council(0), 0);
        x.pass(39);
        C.due("0: nor on DAY 39", x.ofCitizen(3, 12), 0);
        C.due("0: nor a COUNCIL", x.council(0), 0);
        C.due("0: nothing is DRAWN till then", x.city(4), 0);
        C.citizen("0: AGE", x, 3, 2, 40);
        x.pass(1);
        C.due("0: a SHIP on DAY 40", x.ofCitizen(3, 12), 1);
        C.due("0: a COUNCIL", x.council(0), 3);
        C.citizen("0: a YEAR older", x, 3, 2, 41);
    }

    /** UNREST by lost fights (3 each) on the DAYS 31 and later, and by ALLIES that fall off on DAY 40 (2 each). */
    private static Kleroterion unrest(int fights, int allies) {
        Kleroterion x = Checks.three();
        x.enroll(1, 40, 100, 5);
        x.stand(3, 4);
        x.fill(4);
        x.seat();
        x.move(0, 5, 0, 5, 300);
        x.assembly();
        for (int k = 0; k < allies; k++) x.ally(1, 99);
        x.pass(31);
        for (int k = 0; k < fights; k++) {
            x.levy(8);
            x.pass(1);
        }
        x.pass(39 - x.city(0));
        C.due("0: UNREST on DAY 39", x.city(7), 3 * fights);
        return x;
    }

    /** (a) comes ahead of (b): no accounts, no COUNCIL; and what (b) does to UNREST waits for the next PRYTANY. */
    private static void ruleFirst() {
        Kleroterion x = unrest(7, 0);
        int draws = x.city(4);
        x.pass(1);
        C.due("0: the people do not rule", x.city(8), 0);
        C.due("0: nobody in OFFICE", x.ofOffice(4, 0), -1);
        C.due("0: no account, no COUNCIL, no CHAIR is DRAWN", x.city(4), draws);
        C.due("0: no COUNCIL", x.council(0), 0);
        C.noState("0: no account", x, () -> x.sue(0, 3, 3, 1, 5));
        Kleroterion y = unrest(6, 1);
        y.pass(1);
        C.due("0, 14: UNREST", y.city(7), 20);
        C.due("0, 14: by (b), so the people rule still", y.city(8), 1);
        C.due("0: an account", y.sue(0, 3, 3, 1, 5), 0);
        y.pass(9);
        C.due("14: on DAY 49 too", y.city(8), 1);
        y.pass(1);
        C.due("14: 20 is enough", y.city(8), 0);
        Kleroterion z = unrest(5, 2);
        z.pass(11);
        C.due("0, 14: UNREST", z.city(7), 19);
        C.due("14: 19 is not enough", z.city(8), 1);
    }

    /** (b) The FINES of 60 and RENT come in ahead of the treasurer's account, TRIBUTE behind it. */
    private static void treasurerLeaves() {
        Kleroterion x = new Kleroterion();
        x.enroll(0, 40, 300, 5);
        x.enroll(1, 20, 200, 5);
        x.pass(40);
        C.citizen("0: a SHIP", x, 1, 12, 1);
        x.bear(0);
        x.stand(0, 1);
        C.due("0: treasurer", x.fill(1), 0);
        x.pass(39);
        C.due("4: HANDLED: three times 2, not what came in ahead of that", x.ofOffice(1, 3), 6);
        x.lease(1, 0, 20);
        x.ally(60, 20);
        Checks.tillDrawn(x, 8, 0);
        C.due("0: nobody is seated", x.council(0), 0);
        x.pass(1);
        C.citizen("0: a tenth of 6 + 60 + 20", x, 0, 4, 260 - 8);
        C.due("0: TREASURY", x.money(0), 300 + 40 - 6 + 60 + 20 + 8 + 60);
    }

    /** OFFICE by OFFICE: what the archon is fined (DRAWS of 0 by LUCK 5 and 6), the treasurer took in. */
    private static void officeByOffice() {
        Kleroterion x = new Kleroterion();
        x.enroll(0, 40, 100, 5);
        x.enroll(0, 40, 300, 5);
        x.stand(0, 0);
        x.fill(0);
        x.pass(10);
        x.stand(1, 1);
        x.fill(1);
        x.pass(29);
        C.due("4: HANDLED of the treasurer", x.ofOffice(1, 3), 8);
        C.due("4: HANDLED of the archon: DAYS", x.ofOffice(0, 3), 39);
        Checks.tillLuck(x, 0);
        x.pass(1);
        C.citizen("0: a tenth of 40 DAYS", x, 0, 4, 96);
        C.citizen("0: a tenth of 8 + 4", x, 1, 4, 299);
    }

    /** Who is 75 by the new YEAR has a FINE for the BURDEN of the old one first, pays RENT, and has an account. */
    private static void deadBehind() {
        Kleroterion x = new Kleroterion();
        x.enroll(0, 69, 300, 5);
        for (int k = 0; k < 5; k++) x.pass(40);
        C.citizen("0: a BURDEN in the YEARS 1, 3, 5", x, 0, 12, 1);
        C.citizen("0: two FINES of 60", x, 0, 4, 180);
        x.pass(39);
        C.citizen("0: 74 on the last DAY", x, 0, 2, 74);
        C.citizen("0: FULL", x, 0, 6, 1);
        x.lease(0, 0, 100);
        x.stand(0, 0);
        x.fill(0);
        int draws = x.city(4);
        x.pass(1);
        C.citizen("0: DEAD", x, 0, 6, 4);
        C.citizen("0: 75", x, 0, 2, 75);
        C.citizen("0: 60 and 100, ahead of that", x, 0, 4, 20);
        C.due("0: and an account, of one of 8 DRAWN", x.city(4) - draws, 1 + 3);
        C.due("0: all in the TREASURY", x.money(0), 300 + 180 + 100);
        C.citizen("0: no BURDEN", x, 0, 12, 0);
    }

    /** Those who are 75 or older by it, whatever their STATUS, are DEAD. */
    private static void deadByAge() {
        Kleroterion x = new Kleroterion();
        x.enroll(0, 70, 0, 0);
        x.enroll(0, 70, 0, 15);
        x.enroll(0, 70, 0, 15);
        x.enroll(1, 69, 0, 5);
        x.appeal(2);
        for (int year = 1; year <= 4; year++) x.pass(40);
        x.pass(39);
        int[] due = {1, 0, 5, 1};
        for (int k = 0; k < 4; k++) C.citizen("0: on DAY 199", x, k, 6, due[k]);
        for (int k = 0; k < 3; k++) C.citizen("0: AGE on DAY 199", x, k, 2, 74);
        x.pass(1);
        for (int k = 0; k < 4; k++) C.citizen("0: on DAY 200", x, k, 6, k < 3 ? 4 : 1);
        for (int k = 0; k < 3; k++) C.citizen("0: AGE on DAY 200", x, k, 2, 75);
        x.pass(40);
        for (int k = 0; k < 4; k++) C.citizen("0: on DAY 240", x, k, 6, 4);
        for (int k = 0; k < 4; k++) C.citizen("1: AGE, whatever the STATUS", x, k, 2, k < 3 ? 76 : 75);
        Kleroterion old = new Kleroterion();
        old.enroll(0, 70, 50, 0);
        for (int k = 1; k <= 5; k++) old.enroll(k, 40, 0, 15);
        old.enroll(0, 40, 0, 1);
        old.enroll(4, 40, 0, 15);
        old.pass(21);
        C.due("0: the old one is EXILED", old.sherds(), 0);
        for (int k = 0; k < 4; k++) old.pass(40);
        old.pass(18);
        C.citizen("0: EXILED at 74", old, 0, 6, 3);
        old.pass(1);
        C.citizen("0: DEAD at 75", old, 0, 6, 4);
    }

    /** The COUNCIL is drawn behind all that: who was in OFFICE, who is 30 by now; not who is DEAD, or OUT by a FINE. */
    private static void councilBehind() {
        Kleroterion x = new Kleroterion();
        x.enroll(0, 40, 0, 5);
        x.enroll(0, 29, 0, 5);
        x.enroll(0, 40, 0, 5);
        x.stand(0, 0);
        x.fill(0);
        x.pass(39);
        C.due("0: one in OFFICE, one of 29", x.seat(), 0);
        x.pass(1);
        C.due("0: all three in the COUNCIL", x.council(0), 3);
        for (int age = 69; age <= 70; age++) {
            Kleroterion old = new Kleroterion();
            old.enroll(0, age, 0, 5);
            old.enroll(0, 40, 0, 5);
            for (int k = 0; k < 4; k++) old.pass(40);
            old.pass(39);
            old.enroll(0, 40, 0, 5);
            old.pass(1);
            C.due("0: one is " + (age + 5), old.council(0), age == 69 ? 3 : 0);
        }
        for (int rent = 60; rent <= 61; rent++) {
            Kleroterion poor = new Kleroterion();
            poor.enroll(0, 40, 120, 5);
            for (int k = 1; k < 3; k++) poor.enroll(0, 40, 0, 5);
            poor.pass(40);
            C.citizen("0: a SHIP", poor, 0, 12, 1);
            C.due("0: a COUNCIL", poor.council(0), 3);
            poor.lease(0, 0, rent);
            poor.pass(40);
            C.citizen("1: 60 and " + rent + " of 120", poor, 0, 6, rent == 60 ? 1 : 2);
            C.due("0: COUNCIL then", poor.council(0), rent == 60 ? 3 : 0);
        }
    }

    /** (d) Each OFFICE with somebody in it costs 2 as a PRYTANY begins; on the first DAY of a YEAR nobody is in one. */
    private static void officesCost() {
        Kleroterion x = new Kleroterion();
        for (int k = 0; k < 3; k++) x.enroll(k, 40, 150, 5);
        for (int k = 0; k < 3; k++) x.stand(k, k);
        for (int k = 0; k < 3; k++) C.due("0: in OFFICE", x.fill(k), k);
        C.due("0: not by FILLING", x.money(0), 300);
        x.pass(9);
        C.due("0: not till DAY 9", x.money(0), 300);
        x.pass(1);
        C.due("0: 2 for each of three", x.money(0), 294);
        x.pass(20);
        C.due("0: DAY 30", x.money(0), 282);
        int took = x.money(7);
        x.pass(10);
        C.due("0: nothing on DAY 40", x.money(8), 18);
        C.due("0: but for FINES", x.money(0), 282 + x.money(7) - took);
    }

    /** The TREASURY pays as much as it has, at most: of 4 for OFFICES 3, of 1 for an ASSEMBLY nothing. */
    private static void poorTreasury() {
        Kleroterion x = Checks.three();
        for (int k = 3; k < 8; k++) x.enroll(k, 40, 0, 5);
        x.stand(3, 0);
        x.stand(4, 2);
        x.fill(0);
        x.fill(2);
        x.seat();
        Checks.tillChair(x);
        int cost = x.city(14) / 4;
        C.due("3: PRESENT", cost, 1);
        x.move(0, 3, 0, 5, x.money(0) - cost - 3);
        C.due("0: PASSES", x.assembly(), 1);
        C.due("0: 3 are left", x.money(0), 3);
        C.due("0: the YEAR goes on", x.city(2) < 3, true);
        x.pass(10 - x.city(0) % 10);
        C.due("0: of 4 it pays 3", x.money(0), 0);
        C.due("0: paid out", x.money(8), 300);
        C.due("0: no UNREST by that", x.city(7), 0);
        x.pass(40 - x.city(0) % 40);
        Checks.tillChair(x);
        C.due("0: enough are PRESENT to cost 1", x.city(14) >= 4, true);
        C.due("0: nothing is there", x.money(0), 0);
        C.due("0: an ASSEMBLY nevertheless", x.assembly(), 0);
        C.due("0: nothing is paid", x.money(8), 300);
        C.due("0: no UNREST by that either", x.city(7), 0);
        C.due("38: sound", x.isSound(), true);
    }

    /** UNREST is 0 at least: of 3 a WAR that is won leaves 1, the next one 0. */
    private static void unrestAtLeast() {
        Kleroterion x = Checks.three();
        for (int k = 0; k < 37; k++) x.enroll(3, 20, 100, 5);
        x.seat();
        Checks.tillChair(x);
        x.move(0, 5, 0, 5, 0);
        x.assembly();
        x.levy(4);
        C.due("13: UNREST by a lost fight", x.city(7), 3);
        int[] due = {1, 0, 0};
        for (int k = 0; k < 3; k++) {
            x.pass(1);
            if (x.city(10) == -1) {
                Checks.tillChair(x);
                x.move(0, 5, 0, 5, 0);
                x.assembly();
            }
            C.due("13: enough HOPLITES", x.levy(8) > 0, true);
            C.due("0: UNREST then", x.city(7), due[k]);
        }
    }

    public static void main(String[] args) {
        calendar();
        lastDay();
        luck();
        drawOfOne();
        eachLuck();
        columns();
        oneWanted();
        twoWanted();
        agrees();
        dayZero();
        ruleFirst();
        treasurerLeaves();
        officeByOffice();
        deadBehind();
        deadByAge();
        councilBehind();
        officesCost();
        poorTreasury();
        unrestAtLeast();
        C.end();
    }
}
