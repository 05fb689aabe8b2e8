import java.util.ArrayList;
import java.util.List;

/** Sections 11, 13, 14 and promises 32 to 34, sentence by sentence: sherds, WAR, the people's rule. */
public final class EdgesRuleTest {
    private static final Checks C = new Checks();
    private static final int[] FAR = {Integer.MIN_VALUE, Integer.MAX_VALUE};

    /** In the PRYTANY 2 or 3 of its YEAR: the first and the last DAY of each. */
    private static void sherdsDays() {
        for (int day : new int[] {0, 9, 10, 19, 20, 29, 30, 39, 40, 59, 60}) {
            Kleroterion x = new Kleroterion();
            x.found(40, 0);
            for (int left = day; left > 0; left -= 40) x.pass(Math.min(40, left));
            if (day % 40 < 20) C.noState("32: on DAY " + day, x, x::sherds);
            else C.due("32: on DAY " + day, x.sherds() >= 0, true);
            if (day % 40 >= 20) C.noState("32: once a YEAR", x, x::sherds);
        }
        Kleroterion x = Checks.overthrown();
        x.pass(10);
        C.noState("32: the people do not rule", x, x::sherds);
    }

    /** PRESENT 6 or more: of seven 1, 2, 3, 5, 6 are five, of eight 7 too; done is done, whatever comes of it. */
    private static void sixPresent() {
        for (int many = 7; many <= 8; many++) {
            Kleroterion x = new Kleroterion();
            for (int k = 0; k < many; k++) x.enroll(k, 40, k, 5);
            x.pass(20);
            C.due("36: PRESENT", x.city(14), many - 2);
            int treasury = x.money(0);
            C.due("32: by those PRESENT", x.sherds(), many == 7 ? -1 : 7);
            C.due("11: UNREST", x.city(7), many == 7 ? 0 : 1);
            C.due("11: at no cost", x.money(0), treasury);
            C.due("11: nothing is DRAWN", x.city(4), 0);
            C.noState("32: it was done this YEAR", x, x::sherds);
            x.pass(19);
            C.noState("32: on its last DAY too", x, x::sherds);
            x.pass(21);
            x.enroll(7, 40, 200, 5);
            x.enroll(6, 40, 100, 5);
            C.due("36: PRESENT", x.city(14), 6);
            C.due("32: the next YEAR", x.sherds(), many);
        }
        Kleroterion none = new Kleroterion();
        none.pass(20);
        C.due("32: nobody is there", none.sherds(), -1);
        C.noState("32: done nevertheless", none, none::sherds);
    }

    /** Whose VIEW differs most; of several the one with the greatest WEALTH, then the smallest number; PRESENT or not. */
    private static void whoIsNamed() {
        int[][] due = {{50, 60, 1}, {60, 60, 0}, {60, 50, 0}};
        for (int[] d : due) {
            Kleroterion x = new Kleroterion();
            x.enroll(0, 40, d[0], 15);
            x.enroll(1, 40, d[1], 15);
            for (int k = 2; k < 8; k++) x.enroll(k, 40, 0, 5);
            x.pass(20);
            C.due("11: WEALTH of " + d[0] + " and " + d[1], x.sherds(), d[2]);
            C.citizen("11: EXILED", x, d[2], 6, 3);
            C.citizen("11: the other one not", x, 1 - d[2], 6, 1);
        }
        int[][] views = {{9, 11, 1}, {11, 9, 0}, {0, 11, 1}, {0, 10, 0}};
        for (int[] v : views) {
            Kleroterion x = new Kleroterion();
            x.enroll(0, 40, 10, v[0]);
            x.enroll(1, 40, 10, v[1]);
            for (int k = 2; k < 8; k++) x.enroll(k, 40, 0, 5);
            x.pass(20);
            C.due("11: VIEWS " + v[0] + " and " + v[1] + " from 5", x.sherds(), v[2]);
        }
    }

    /** Of several who are named most the smallest number: 0, 1, 2 name 4 (or 7), 4, 5, 6 name 0 (or 3). */
    private static void namedMost() {
        for (int rich = 0; rich <= 1; rich++) {
            for (int low = 0; low <= 15; low += 15) {
                Kleroterion x = new Kleroterion();
                for (int k = 0; k < 8; k++) x.enroll(k, 40, rich * k, k < 4 ? low : 15 - low);
                x.pass(21);
                C.due("36: PRESENT: not 3, not 7", x.city(14), 6);
                C.due("11: three each", x.sherds(), rich == 0 ? 0 : 3);
            }
        }
        Kleroterion x = new Kleroterion();
        for (int k = 0; k < 9; k++) x.enroll(k % 8, 40, 0, k == 0 || k == 4 || k == 8 ? 0 : 15);
        C.citizen("1: WAITS or not", x, 8, 6, 1);
        x.pass(21);
        C.due("11: 0, 4, 8 name 1, four name 0", x.sherds(), 0);
    }

    /** Names of one YEAR do not count in the next one: eight for 0, then eight for 1. */
    private static void namedAnew() {
        Kleroterion x = new Kleroterion();
        for (int k = 0; k < 12; k++) x.enroll(k % 8, 40, 0, k < 2 ? 15 - k : 5);
        for (int k = 8; k < 10; k++) C.citizen("1: WAITS", x, k, 6, 0);
        for (int k = 12; k < 14; k++) x.enroll(2, 40, 0, 5);
        x.pass(20);
        int due = x.city(14);
        C.due("11: the VIEW 15", x.sherds(), 0);
        x.pass(40);
        C.due("36: as many are PRESENT", x.city(14), due);
        C.due("11: the VIEW 14", x.sherds(), 1);
    }

    /** FULL ones write, and FULL ones are named: the VIEW 15 is OUT, so 14 is named. */
    private static void outIsNotNamed() {
        Kleroterion x = Checks.three();
        x.enroll(1, 20, 0, 15);
        x.enroll(5, 20, 0, 14);
        for (int deme : new int[] {2, 3, 6, 7, 2, 3}) x.enroll(deme, 20, 50, 5);
        x.sue(5, 3, 1, 1, 5);
        x.court();
        C.citizen("1: OUT", x, 3, 6, 2);
        x.pass(20);
        C.due("11: not one who is OUT", x.sherds(), 4);
    }

    /** The first of the DAYS from now on with a CHAIR: a WAR of that strength, and so much for the CHEST. */
    private static void war(Kleroterion x, int strength, int chest) {
        if (x.council(0) == 0) x.seat();
        Checks.tillChair(x);
        x.move(0, 5, 0, 5, strength);
        if (chest > 0) x.move(0, 3, 0, 5, chest);
        C.due("12: PASSES", x.assembly(), chest > 0 ? 3 : 1);
        C.due("36: the WAR", x.city(10), strength);
        C.due("27: the CHEST", x.money(1), chest);
    }

    private static int enemy(Kleroterion x) {
        return x.city(10) + new Checks.Luck(x).draw(40);
    }

    /** HOPLITES are FULL, 18 to 59 years old, of CLASS 1 or more. One of TRIBE 3. */
    private static void hoplites() {
        int[][] due = {{18, 20, 3}, {18, 19, 0}, {59, 20, 3}, {59, 300, 3}, {60, 300, 0}, {70, 20, 0}, {40, 0, 0}};
        for (int[] d : due) {
            Kleroterion x = Checks.three();
            x.enroll(3, d[0], d[1], 5);
            war(x, 10, 0);
            int enemy = enemy(x);
            int draws = x.city(4);
            C.due("33: one of AGE " + d[0] + " and WEALTH " + d[1], x.levy(8), d[2] - enemy);
            C.due("13: DRAWS", x.city(4) - draws, d[2] > 0 ? 2 : 1);
        }
        Kleroterion x = Checks.three();
        x.enroll(3, 40, 50, 5);
        x.enroll(3, 40, 300, 15);
        x.enroll(1, 20, 50, 5);
        x.sue(5, 3, 1, 51, 5);
        x.court();
        war(x, 10, 0);
        C.citizen("1: OUT", x, 3, 6, 2);
        C.citizen("1: WAITS", x, 4, 6, 0);
        int enemy = enemy(x);
        C.due("33: OUT and WAITING ones do not come", x.levy(8), -enemy);
    }

    /** One who is OUT has a WEALTH of 50 by a suit, or none: neither a HOPLITE nor a rower. */
    private static void outDoesNotCome() {
        Kleroterion x = Checks.three();
        x.enroll(3, 20, 50, 5);
        x.enroll(3, 20, 0, 5);
        x.enroll(1, 20, 50, 5);
        x.sue(5, 3, 1, 100, 5);
        x.sue(3, 5, 0, 50, 5);
        x.sue(5, 4, 1, 1, 5);
        C.due("7: tried", x.court(), 3);
        C.citizen("1: OUT", x, 3, 6, 2);
        C.citizen("1: of CLASS 1", x, 3, 5, 1);
        war(x, 10, 0);
        int enemy = enemy(x);
        int draws = x.city(4);
        C.due("33: nobody comes", x.levy(8), -enemy);
        C.due("13: nobody dies", x.city(4) - draws, 1);
    }

    /** 10 for each SHIP that is manned: all these rowers / 4, SHIPS at most; rowers of the TRIBES that are called together. */
    private static void ships() {
        for (int ships = 0; ships <= 2; ships++) {
            for (int rowers : new int[] {0, 3, 4, 7, 8, 12}) {
                Kleroterion x = Checks.three();
                x.enroll(1, 60, 200, 5);
                x.enroll(2, 60, 200, 5);
                for (int k = 0; k < rowers; k++) x.enroll(k % 2 == 0 ? 5 : 6, 20, 0, 5);
                x.pass(40);
                for (int k = 0; k < ships; k++) x.bear(3 + k);
                war(x, 10, 0);
                C.due("36: SHIPS", x.city(13), ships);
                int enemy = enemy(x);
                C.due("33: " + rowers + " rowers, " + ships + " SHIPS", x.levy(6), 10 * Math.min(rowers / 4, ships) - enemy);
                x.pass(1);
                int other = enemy(x);
                C.due("33: of one TRIBE alone", x.levy(2), 10 * Math.min((rowers + 1) / 2 / 4, ships) - other);
            }
        }
    }

    /** 5 for each of these TRIBES with a general in OFFICE (whatever AGE, or OUT). */
    private static void generals() {
        Kleroterion x = Checks.three();
        x.enroll(1, 65, 20, 5);
        x.enroll(2, 65, 20, 5);
        x.enroll(3, 20, 0, 5);
        x.stand(3, 4);
        x.stand(4, 5);
        C.due("4: general of TRIBE 1", x.fill(4), 3);
        C.due("4: general of TRIBE 2", x.fill(5), 4);
        war(x, 10, 0);
        int[] sets = {2, 4, 6, 8, 14, 2};
        int[] due = {5, 5, 10, 0, 10, 5};
        for (int k = 0; k < sets.length; k++) {
            if (x.city(0) % 10 == 9) break;
            if (k == 5) x.sue(5, 3, 1, 100, 5);
            if (k == 5) x.court();
            int enemy = enemy(x);
            C.due("33: TRIBES " + sets[k], x.levy(sets[k]), due[k] - enemy);
            x.pass(1);
        }
        C.citizen("1: OUT, in OFFICE", x, 3, 6, 2);
        C.citizen("1: OUT, in OFFICE", x, 3, 10, 4);
    }

    /** CHEST / 10; then the CHEST is CHEST / 2 less. */
    private static void chests() {
        int[][] due = {{0, 0, 0}, {1, 0, 1}, {2, 0, 1}, {9, 0, 5}, {10, 1, 5}, {19, 1, 10}, {57, 5, 29}, {200, 20, 100}};
        for (int[] d : due) {
            Kleroterion x = Checks.three();
            war(x, 100, d[0]);
            int enemy = enemy(x);
            C.due("33: a CHEST of " + d[0], x.levy(8), d[1] - enemy);
            C.due("13: half of it is less", x.money(1), d[2]);
        }
    }

    /** With a MIGHT above the ENEMY it is won: 14 HOPLITES, just as much, and one more. */
    private static void justAsMuch() {
        for (int less = 0; less <= 1; less++) {
            Kleroterion x = Checks.three();
            for (int k = 0; k < 14; k++) x.enroll(3, 20, 50, 5);
            if (x.council(0) == 0) x.seat();
            Checks.tillChair(x);
            int strength = 42 - new Checks.Luck(x).draw(40) - less;
            war(x, strength, 0);
            int treasury = x.money(0);
            C.due("33: MIGHT less the ENEMY", x.levy(8), less);
            C.due("13: WAR", x.city(10), less == 1 ? -1 : Math.max(0, strength - 10));
            C.due("13: TREASURY", x.money(0), treasury + less * strength);
            C.due("27: took in", x.money(7), less * strength);
            C.due("13: UNREST", x.city(7), less == 1 ? 0 : 3);
            C.noState("33: once a DAY, or none", x, () -> x.levy(8));
        }
    }

    /** Otherwise its strength is 10 less (0 at least), and it is on. */
    private static void strengths() {
        int[][] due = {{0, 0}, {9, 0}, {10, 0}, {11, 1}, {300, 290}};
        for (int[] d : due) {
            Kleroterion x = Checks.three();
            war(x, d[0], 0);
            int enemy = enemy(x);
            C.due("33: nobody comes", x.levy(8), -enemy);
            C.due("13: from " + d[0], x.city(10), d[1]);
            C.due("13: UNREST", x.city(7), 3);
        }
    }

    /** TRIBE by TRIBE, HOPLITES in their order: one of 8 is DRAWN for each (of 16, if it was won), who is DEAD with 0. */
    private static void fallen() {
        int[] dead = new int[2];
        int[] fights = new int[2];
        for (int seatings = 0; seatings < 16; seatings++) {
            for (int strength : new int[] {0, 300}) {
                Kleroterion x = new Kleroterion();
                for (int s = 0; s < seatings; s++) x.seat();
                for (int k = 0; k < 3; k++) x.enroll(0, 40, 100, 5);
                for (int k = 0; k < 24; k++) x.enroll(k % 3 == 0 ? 3 : k % 3 == 1 ? 1 : 2, 20, k % 4 == 0 ? 0 : 50, 5);
                x.seat();
                Checks.tillChair(x);
                war(x, strength, 0);
                Checks.Luck luck = new Checks.Luck(x);
                List<Integer> called = new ArrayList<>();
                for (int t : new int[] {1, 3}) {
                    for (int c = 0; c < x.city(5); c++) if (x.ofCitizen(c, 1) == t && x.ofCitizen(c, 5) > 0) called.add(c);
                }
                int might = 3 * called.size();
                int enemy = strength + luck.draw(40);
                int isWon = might > enemy ? 1 : 0;
                int[] status = new int[x.city(5)];
                int[] lost = new int[4];
                java.util.Arrays.fill(status, 1);
                for (int c : called) {
                    if (luck.draw(isWon == 1 ? 16 : 8) != 0) continue;
                    status[c] = 4;
                    lost[x.ofCitizen(c, 1)]++;
                    dead[isWon]++;
                }
                fights[isWon]++;
                int draws = x.city(4);
                C.due("33: MIGHT less the ENEMY", x.levy(10), might - enemy);
                C.due("13: DRAWS", x.city(4) - draws, 1 + called.size());
                for (int c = 0; c < status.length; c++) C.citizen("13: DEAD or not", x, c, 6, status[c]);
                for (int t = 0; t < 4; t++) C.due("31: dead by wars", x.ofTribe(t, 4), lost[t]);
            }
        }
        C.due("13: some are DEAD, won or not", dead[0] > 0 && dead[1] > 0, true);
        C.due("13: both come", fights[0] > 0 && fights[1] > 0, true);
    }

    /** No WAR; once a DAY, for another WAR of that DAY too; the set of TRIBES is 1 to 15. Without the people's rule too. */
    private static void levyRefused() {
        Kleroterion x = Checks.three();
        for (int k = 0; k < 20; k++) x.enroll(3, 20, 50, 5);
        for (int set : new int[] {0, -1, 16, FAR[0], FAR[1]}) C.noArgument("33: ahead of no WAR, " + set, x, () -> x.levy(set));
        C.noState("33: no WAR", x, () -> x.levy(1));
        C.noState("33: no WAR", x, () -> x.levy(15));
        x.seat();
        Checks.tillChair(x);
        x.pass(1);
        war(x, 0, 0);
        C.due("13: it is won", x.levy(8) > 0, true);
        C.noState("33: no WAR any more", x, () -> x.levy(8));
        for (int set : new int[] {0, 16}) C.noArgument("33: ahead of that, " + set, x, () -> x.levy(set));
        Kleroterion y = Checks.three();
        for (int k = 0; k < 20; k++) y.enroll(3, 20, 50, 5);
        y.seat();
        Checks.tillChair(y);
        war(y, 0, 0);
        y.pass(1);
        y.levy(8);
        y.move(0, 5, 0, 5, 20);
        y.assembly();
        C.due("3: another WAR of that DAY", y.city(10), 20);
        C.noState("33: it was done this DAY", y, () -> y.levy(8));
        y.pass(1);
        int enemy = enemy(y);
        C.due("33: on the next one", y.levy(1), 9 - enemy);
        Kleroterion z = Checks.overthrown();
        int other = enemy(z);
        C.due("33: without the people's rule", z.levy(8), -other);
    }

    /** UNREST of 24 by ALLIES of three YEARS, nobody is there; on DAY 120 those with these WEALTHS are enrolled; the DAY is 130. */
    private static Kleroterion unruled(int... wealth) {
        Kleroterion x = new Kleroterion();
        for (int year = 0; year < 3; year++) {
            for (int k = 0; k < 4; k++) x.ally(1, 99);
            x.pass(40);
        }
        for (int k = 0; k < wealth.length; k++) x.enroll(k % 8, 20, wealth[k], 5);
        x.pass(9);
        C.due("14: the people rule till the PRYTANY begins", x.city(8), 1);
        C.due("36: so nobody RULES", x.city(9), -1);
        x.pass(1);
        C.due("14: the people do not rule", x.city(8), 0);
        return x;
    }

    /** The three FULL ones with the greatest WEALTH (of several the smallest number; fewer, if there are not more). */
    private static void rulers() {
        int[][] wealth = {{}, {50}, {10, 20}, {20, 10}, {10, 20, 20, 5}, {7, 7, 7, 7}, {1, 2, 3, 4, 5}, {5, 4, 3, 2, 1}};
        int[][] due = {{}, {0}, {1, 0}, {0, 1}, {1, 2, 0}, {0, 1, 2}, {4, 3, 2}, {0, 1, 2}};
        for (int k = 0; k < wealth.length; k++) {
            Kleroterion x = unruled(wealth[k]);
            C.due("36: the first one of those who RULE", x.city(9), due[k].length == 0 ? -1 : due[k][0]);
            C.due("14: they rise", x.rise(5, false), due[k].length > 0);
            int[] status = new int[wealth[k].length];
            java.util.Arrays.fill(status, 1);
            for (int ruler : due[k]) status[ruler] = 3;
            for (int c = 0; c < status.length; c++) C.citizen("14: who RULED is EXILED", x, c, 6, status[c]);
            C.due("36: nobody RULES", x.city(9), -1);
        }
    }

    /** FULL ones RULE: not one who is OUT, or WAITS, though the richest. */
    private static void fullOnesRule() {
        Kleroterion x = Checks.three();
        x.enroll(1, 20, 200, 5);
        x.enroll(2, 20, 190, 5);
        x.enroll(2, 20, 300, 15);
        x.enroll(6, 20, 150, 9);
        x.enroll(5, 20, 140, 5);
        Checks.overthrow(x, 5);
        C.due("36: the richest of those who are FULL", x.city(9), 3);
        C.due("14: not one who is OUT", richAndOut(300).city(9), 9);
        C.due("14: no OATH", x.rise(5, false), true);
        int[] due = {1, 1, 1, 3, 3, 0, 3, 1};
        for (int c = 0; c < 8; c++) C.citizen("14: those who RULED", x, c, 6, due[c]);
    }

    /** Each further PRYTANY: payers in their order go round those who RULE, from the first one on again. */
    private static void exactions() {
        for (int rulers = 0; rulers <= 3; rulers++) {
            for (int payers = 0; payers <= 7; payers++) {
                int[] wealth = new int[rulers];
                for (int k = 0; k < rulers; k++) wealth[k] = 300 - k;
                Kleroterion x = unruled(wealth);
                for (int k = 0; k < payers; k++) x.enroll(k, 20, 200, 5);
                if (rulers == 3) x.enroll(7, 20, 119, 5);
                int took = x.money(7);
                for (int prytany = 1; prytany <= 2; prytany++) {
                    x.pass(9);
                    paid(x, rulers, payers, prytany - 1);
                    x.pass(1);
                    paid(x, rulers, payers, prytany);
                }
                C.due("14: nothing comes into the TREASURY", x.money(7), took);
                C.due("36: nobody new RULES", x.city(9), rulers == 0 ? -1 : 0);
                if (rulers == 3) C.citizen("14: CLASS 2 pays nothing", x, rulers + payers, 4, 119);
            }
        }
    }

    private static void paid(Kleroterion x, int rulers, int payers, int times) {
        for (int k = 0; k < payers; k++) C.citizen("14: each pays 5, if anybody RULES", x, rulers + k, 4, 200 - (rulers == 0 ? 0 : 5 * times));
        for (int k = 0; k < rulers; k++) {
            int each = 0;
            for (int p = 0; p < payers; p++) if (p % rulers == k) each++;
            C.citizen("14: " + payers + " go round " + rulers, x, k, 4, 300 - k + 5 * each * times);
        }
    }

    /** CLASS 3 of just 120 pays once; those who WAIT or are EXILED do not; one who is OUT does. */
    private static void payers() {
        Kleroterion x = unruled(300, 290, 280);
        x.enroll(3, 20, 120, 5);
        x.enroll(3, 20, 300, 15);
        x.enroll(4, 20, 200, 15);
        C.citizen("1: WAITS", x, 4, 6, 0);
        C.due("14: the VIEW 15 rises alone", x.rise(15, true), false);
        C.citizen("14: EXILED", x, 5, 6, 3);
        x.pass(10);
        int[] due = {305, 290, 280, 115, 300, 200};
        for (int c = 0; c < 6; c++) C.citizen("14: WEALTH", x, c, 4, due[c]);
        x.pass(10);
        for (int c = 0; c < 6; c++) C.citizen("14: CLASS 2 by now", x, c, 4, due[c]);
        Kleroterion y = richAndOut(250);
        y.pass(10);
        C.citizen("14: one who is OUT pays", y, 3, 4, 245);
        C.citizen("14: the first one has it", y, 9, 4, 305);
        C.citizen("14: DEBT stays", y, 3, 7, 20);
    }

    /** 3 has a SHIP by DAY 40, is OUT, and gets the WEALTH of 8 for the own one; 9, 10, 11 have 300; overthrown on DAY 50. */
    private static Kleroterion richAndOut(int wealth) {
        Kleroterion y = Checks.three();
        y.enroll(1, 20, 130, 5);
        y.enroll(2, 20, 50, 5);
        for (int k = 0; k < 3; k++) y.enroll(k == 0 ? 3 : 6, 20, 10, 5);
        y.seat();
        Checks.tillChair(y);
        y.move(0, 5, 0, 5, 300);
        y.assembly();
        y.pass(40 - y.city(0));
        C.citizen("9: a SHIP", y, 3, 12, 1);
        y.sue(4, 3, 1, 150, 5);
        y.court();
        C.citizen("1: OUT", y, 3, 6, 2);
        y.enroll(5, 20, wealth, 5);
        for (int k = 0; k < 3; k++) y.enroll(6, 20, 300 - (wealth == 300 ? 10 : 0), 5);
        C.due("28: both exchange", y.claim(3, 8), 2);
        C.citizen("9: OUT with WEALTH", y, 3, 4, wealth);
        for (int k = 0; k < 7; k++) {
            y.levy(8);
            y.pass(1);
        }
        y.pass(3);
        C.due("14: overthrown", y.city(8), 0);
        C.due("36: the first one is FULL, though one who is OUT is richer", y.city(9), 9);
        return y;
    }

    /** CITIZENS pay in their order, with any number: 0 and 4 pay 1 and 2. */
    private static void payersInOrder() {
        Kleroterion x = unruled(200, 300, 290, 280, 120);
        x.pass(10);
        int[] due = {195, 305, 295, 280, 115};
        for (int c = 0; c < 5; c++) C.citizen("14: WEALTH", x, c, 4, due[c]);
        // by their WEALTH, one more each, these RULE as 2, 1, 0, or as 3, 2, 1
        Kleroterion up = unruled(297, 298, 299, 120, 120);
        up.pass(10);
        int[] two = {297, 303, 304, 115, 115};
        for (int c = 0; c < 5; c++) C.citizen("14: the first one, the second one", up, c, 4, two[c]);
        Kleroterion four = unruled(296, 297, 298, 299, 120);
        four.pass(10);
        int[] three = {291, 297, 303, 304, 115};
        for (int c = 0; c < 5; c++) C.citizen("14: 0 pays the first one, 4 the second one", four, c, 4, three[c]);
    }

    /** Whatever STATUS these have by now: one who RULES is EXILED, and is paid. */
    private static void anyStatus() {
        Kleroterion x = unruled(300, 290);
        x.enroll(2, 20, 200, 15);
        x.enroll(3, 20, 200, 15);
        x.enroll(4, 20, 200, 15);
        x.enroll(5, 20, 200, 15);
        Checks.Luck luck = new Checks.Luck(x);
        C.due("14: two of six", x.rise(5, true), false);
        int exile = luck.draw(2);
        C.citizen("14: one who RULES is EXILED", x, exile, 6, 3);
        C.due("36: the first one still", x.city(9), 0);
        x.pass(10);
        C.citizen("14: two for each", x, 0, 4, 310);
        C.citizen("14: two for each", x, 1, 4, 300);
        for (int c = 2; c < 6; c++) C.citizen("14: 5 of each", x, c, 4, 195);
    }

    /** COUNCIL, OFFICES and AGENDA are empty; what else there is stays. */
    private static void whatIsEmpty() {
        Kleroterion x = Checks.three();
        x.enroll(1, 40, 100, 5);
        x.enroll(2, 40, 50, 5);
        x.stand(3, 4);
        x.fill(4);
        x.stand(4, 2);
        x.lease(4, 1, 9);
        x.ally(3, 3);
        x.sue(3, 4, 0, 200, 5);
        x.seat();
        x.move(0, 0, 2, 5, 0);
        x.move(0, 1, 2, 5, 0);
        x.move(0, 2, 2, 5, 30);
        Checks.loseSevenTimes(x, 5);
        x.move(0, 0, 2, 5, 0);
        C.due("36: AGENDA", x.city(11), 1);
        int draws = x.city(4);
        x.pass(3);
        C.due("14: overthrown", x.city(8), 0);
        C.due("14: no COUNCIL", x.council(0), 0);
        C.due("14: nobody in OFFICE", x.ofOffice(4, 0), -1);
        C.due("14: without accounts", x.city(4), draws);
        C.noState("14: none to be sued for", x, () -> x.sue(0, 3, 3, 1, 5));
        C.due("14: those who stand stand on", x.ofOffice(2, 1), 1);
        C.due("14: no AGENDA", x.city(11), 0);
        int[] money = {30, 9, 3};
        for (int k = 0; k < 3; k++) C.due("14: PURSE, RENT, TRIBUTE stay", x.money(2 + k), money[k]);
        C.due("14: the suit waits", x.jury(6), 1);
        C.due("14: the DECREE is kept", x.city(12), 1);
        C.due("14: the LAW stays", x.law(2), 5);
        C.due("14: the WAR is on", x.city(10) >= 0, true);
        C.due("14: UNREST stays", x.city(7), 21);
        x.pass(10);
        C.due("14: nobody new RULES", x.city(8), 0);
    }

    /** 2 times those who AGREE more than all FULL ones: two of four are not, three of five are. */
    private static void half() {
        int[][] due = {{2, 2, 0}, {2, 3, 0}, {3, 2, 1}, {1, 0, 1}, {0, 1, 0}, {1, 1, 0}};
        for (int[] d : due) {
            Kleroterion x = unruled();
            for (int k = 0; k < d[0] + d[1]; k++) x.enroll(k, 20, 0, k < d[0] ? 5 : 15);
            int draws = x.city(4);
            Checks.Luck luck = new Checks.Luck(x);
            C.due("34: " + d[0] + " AGREE, " + d[1] + " not", x.rise(2, false), d[2] == 1);
            C.due("36: the people rule", x.city(8), d[2]);
            C.due("36: UNREST", x.city(7), d[2] == 1 ? 0 : 24);
            boolean isDrawn = d[2] == 0 && d[0] > 0;
            C.due("14: DRAWN of those who AGREE, if there are any", x.city(4) - draws, isDrawn ? 1 : 0);
            C.due("14: EXILED", x.roll(3, 0, -1), isDrawn ? 1 : 0);
            if (isDrawn) C.citizen("14: in their order", x, luck.draw(d[0]), 6, 3);
        }
        Kleroterion none = unruled();
        C.due("34: none of none is not more", none.rise(5, true), false);
        C.due("36: the people do not rule", none.city(8), 0);
        C.due("36: nobody is there", none.city(5), 0);
    }

    /** One of those FULL ones who AGREE: not one who WAITS or is EXILED, nor a HOPLITE who was called. */
    private static void whoIsDrawn() {
        Kleroterion x = unruled();
        int[] demes = {0, 0, 0, 1, 2, 3};
        int[] views = {5, 15, 15, 5, 5, 15};
        for (int k = 0; k < 6; k++) x.enroll(demes[k], 20, 0, views[k]);
        C.citizen("1: WAITS", x, 1, 6, 0);
        for (int k = 5; k < 15; k++) {
            C.due("34: one of four", x.rise(15, true), false);
            C.citizen("14: the only FULL one who AGREES", x, k, 6, 3);
            C.due("14: nobody else", x.roll(3, 0, -1), k - 4);
            x.enroll(3, 20, 0, 15);
        }
        Kleroterion out = unruled();
        for (int k = 0; k < 2; k++) out.enroll(0, 20, 0, 15);
        for (int k = 0; k < 2; k++) out.lease(k, k, 50);
        for (int k = 1; k < 6; k++) out.enroll(k, 20, 0, 5);
        out.pass(30);
        C.due("1: two are OUT", out.roll(2, 0, 0), 2);
        for (int k = 7; k < 15; k++) {
            out.enroll(7, 20, 0, 15);
            C.due("34: one of six", out.rise(15, true), false);
            C.citizen("14: not one who is OUT", out, k, 6, 3);
        }
        Kleroterion y = Checks.overthrown();
        y.enroll(1, 20, 0, 15);
        for (int k = 0; k < 4; k++) y.enroll(2, 20, 0, 5);
        for (int k = 3; k < 12; k++) {
            if (k > 3) y.enroll(3, 20, 0, 15);
            y.levy(1);
            int who = y.city(5) - 1;
            if (k == 3) who = 3;
            y.rise(15, true);
            C.citizen("14: not a HOPLITE", y, who, 6, 3);
            y.pass(1);
            if (y.city(0) % 10 == 9) y.pass(1);
        }
    }

    private static void riseRefused() {
        Kleroterion x = Checks.three();
        for (int lean : new int[] {-1, 16, FAR[0], FAR[1]}) C.noArgument("34: LEAN " + lean + ", though the people rule", x, () -> x.rise(lean, true));
        for (int lean : new int[] {0, 15}) C.noState("34: the people rule", x, () -> x.rise(lean, false));
        Kleroterion y = Checks.overthrown();
        for (int lean : new int[] {-1, 16, FAR[0], FAR[1]}) C.noArgument("34: LEAN " + lean, y, () -> y.rise(lean, false));
        C.due("34: LEAN 0", y.rise(0, true), true);
        C.noState("34: the people rule again", y, () -> y.rise(0, true));
        Kleroterion z = Checks.overthrown();
        C.due("34: LEAN 15", z.rise(15, true), false);
    }

    /** LAWS that differ from the LEAN by more than 6 are gone; DECREES that yielded to them HOLD again. */
    private static void laws() {
        for (int lean = 3; lean <= 10; lean += 7) {
            Kleroterion x = Checks.three();
            x.seat();
            int[] laws = {3, 4, 9, 10};
            for (int k = 0; k < 4; k++) x.move(0, 1, k, laws[k], 0);
            x.move(0, 0, 0, 10, 0);
            x.move(0, 0, 3, 3, 0);
            Checks.loseSevenTimes(x, 5);
            x.pass(3);
            for (int k = 0; k < 4; k++) C.due("14: the LAWS stay first", x.law(k), laws[k]);
            C.due("3: yields", x.ofDecree(0, 4) + x.ofDecree(1, 4), 0);
            C.due("34: the people rule", x.rise(lean, true), true);
            for (int k = 0; k < 4; k++) C.due("14: " + laws[k] + " by " + lean, x.law(k), Math.abs(laws[k] - lean) > 6 ? -1 : laws[k]);
            C.due("3: HOLDS by then", x.ofDecree(0, 4), lean == 10 ? 1 : 0);
            C.due("3: HOLDS by then", x.ofDecree(1, 4), lean == 3 ? 1 : 0);
        }
    }

    /** By an OATH suits of KINDS 1, 2, 3 are dropped (counted), private ones wait on; the AMNESTY is on for 40 DAYS, that DAY too. */
    private static void amnesty() {
        Kleroterion x = Checks.three();
        for (int deme = 1; deme <= 3; deme++) x.enroll(deme, 20, 100, 5);
        x.enroll(5, 40, 100, 5);
        x.seat();
        x.move(3, 0, 0, 5, 0);
        Checks.loseSevenTimes(x, 5);
        x.pass(3);
        x.sue(3, 4, 1, 10, 5);
        x.sue(3, 4, 0, 20, 5);
        x.challenge(4, 0, 30);
        x.sue(3, 4, 0, 40, 5);
        x.sue(3, 4, 1, 50, 5);
        x.pass(1);
        C.due("34: no OATH counts, as it fails", x.rise(15, true), false);
        C.due("14: all suits wait", x.jury(6), 5);
        C.due("14: none is dropped", x.jury(5), 0);
        C.due("14: no AMNESTY", x.sue(3, 4, 1, 60, 5), 5);
        C.due("34: an OATH", x.rise(5, true), true);
        C.due("14: four are dropped", x.jury(5), 4);
        C.due("14: two wait on", x.jury(6), 2);
        C.due("7: the first one", x.ofSuit(0, 3), 20);
        C.due("7: the next one", x.ofSuit(1, 3), 40);
        C.due("3: no suit waits, so it HOLDS", x.ofDecree(0, 4), 1);
        C.noState("19: an AMNESTY is on", x, () -> x.sue(3, 4, 1, 1, 5));
        C.noArgument("19: ahead of that, a wrong AMOUNT", x, () -> x.sue(3, 4, 1, 0, 5));
        C.due("19: not for private ones", x.sue(3, 4, 0, 1, 5), 2);
        x.stand(6, 0);
        C.due("17: in OFFICE", x.fill(0), 6);
        x.pass(29);
        C.due("36: DAY", x.city(0), 40);
        C.due("19: nor for accounts", x.sue(3, 6, 3, 1, 5), 3);
        x.pass(11);
        C.noState("14: 40 DAYS later, that DAY too", x, () -> x.sue(3, 4, 1, 1, 5));
        x.pass(1);
        C.due("14: 41 DAYS later", x.sue(3, 4, 1, 1, 5), 4);
    }

    /** A DECREE of a DAY ahead of the latest OATH is not sued for; without an OATH it is. */
    private static void oathAndDecrees() {
        for (int oath = 0; oath <= 1; oath++) {
            Kleroterion x = Checks.three();
            for (int deme = 1; deme <= 6; deme++) x.enroll(deme, 20, 100 + deme, 5);
            x.seat();
            x.move(0, 0, 0, 5, 0);
            Checks.loseSevenTimes(x, 5);
            x.pass(3);
            C.due("34: the people rule", x.rise(5, oath == 1), true);
            if (oath == 1) C.noState("20: of a DAY ahead of the OATH", x, () -> x.challenge(1, 0, 10));
            else C.due("20: no OATH was there", x.challenge(1, 0, 10), 0);
            C.noArgument("20: ahead of that, its mover", x, () -> x.challenge(0, 0, 10));
        }
    }

    /** Accounts are owed no more by an OATH, and owed still without one. */
    private static void oaths() {
        for (int oath = 0; oath <= 1; oath++) {
            Kleroterion x = Checks.three();
            x.enroll(1, 40, 100, 5);
            x.enroll(2, 20, 300, 5);
            x.enroll(5, 20, 300, 5);
            x.enroll(6, 20, 290, 5);
            x.stand(3, 0);
            x.fill(0);
            x.seat();
            Checks.tillChair(x);
            x.move(3, 5, 0, 5, 300);
            x.move(3, 0, 0, 5, 0);
            x.assembly();
            C.due("3: a DECREE", x.city(12), 1);
            x.pass(40 - x.city(0));
            x.sue(5, 3, 3, 1, 5);
            x.sue(5, 3, 1, 1, 5);
            for (int k = 0; k < 7; k++) {
                x.levy(1 << 3);
                x.pass(1);
            }
            C.due("13: UNREST", x.city(7) >= 20, true);
            x.pass(3);
            C.due("14: overthrown", x.city(8), 0);
            C.due("34: the people rule", x.rise(5, oath == 1), true);
            C.due("14: suits by an OATH", x.jury(6), oath == 1 ? 0 : 2);
            C.due("14: dropped by an OATH", x.jury(5), oath == 1 ? 2 : 0);
            C.due("14: EXILED without one", x.roll(3, 0, -1), oath == 1 ? 0 : 3);
            if (oath == 1) C.noState("14: owed no more", x, () -> x.sue(0, 3, 3, 1, 5));
            else C.due("14: owed still, on its last DAY", x.sue(0, 3, 3, 1, 5), 2);
        }
    }

    /** Those who RULED and are FULL or OUT are EXILED (and owe nothing); one who WAITS is not. */
    private static void whoRuled() {
        Kleroterion x = unruled(119, 118, 117, 10);
        x.enroll(2, 20, 0, 10);
        x.enroll(2, 20, 0, 10);
        for (int k = 0; k < 4; k++) x.enroll(2, 20, 0, 12);
        C.due("1: all are FULL", x.city(6), 10);
        for (int k = 0; k < 3; k++) x.lease(1, k, 50);
        x.pass(30);
        C.citizen("1: OUT", x, 1, 6, 2);
        C.citizen("1: a DEBT", x, 1, 7, 32);
        C.due("4: one who RULES WAITS", x.purge(2), 1);
        C.citizen("4: that one", x, 2, 6, 0);
        C.due("34: the people rule", x.rise(9, false), true);
        int[] due = {3, 3, 0, 1, 1, 1, 1, 1, 1, 1};
        for (int c = 0; c < 10; c++) C.citizen("14: STATUS", x, c, 6, due[c]);
        C.citizen("1: owes nothing", x, 1, 7, 0);
        C.due("38: sound", x.isSound(), true);
    }

    /** The AMNESTY of an OATH is on up to 40 DAYS later, though the people rise again without one in between. */
    private static void twoRisings() {
        Kleroterion x = Checks.three();
        for (int deme = 1; deme <= 6; deme++) x.enroll(deme, 20, 100 + deme, 5);
        x.seat();
        Checks.loseSevenTimes(x, 5);
        x.pass(3);
        C.due("34: an OATH on DAY 10", x.rise(5, true), true);
        C.due("36: UNREST", x.city(7), 0);
        for (int k = 0; k < 7; k++) {
            x.levy(8);
            x.pass(1);
        }
        x.pass(2);
        C.due("14: the people rule till the PRYTANY begins", x.city(8), 1);
        x.pass(1);
        C.due("14: overthrown again", x.city(8), 0);
        C.due("36: the first one", x.city(9), 8);
        x.pass(3);
        C.due("34: no OATH on DAY 23", x.rise(5, false), true);
        C.due("14: EXILED", x.roll(3, 0, -1), 3);
        C.noState("14: the AMNESTY is on", x, () -> x.sue(3, 4, 1, 1, 5));
        x.pass(27);
        C.noState("14: 40 DAYS later", x, () -> x.sue(3, 4, 1, 1, 5));
        x.pass(1);
        C.due("14: 41 DAYS later", x.sue(3, 4, 1, 1, 5), 0);
    }

    public static void main(String[] args) {
        sherdsDays();
        sixPresent();
        whoIsNamed();
        namedMost();
        namedAnew();
        outIsNotNamed();
        hoplites();
        outDoesNotCome();
        ships();
        generals();
        chests();
        justAsMuch();
        strengths();
        fallen();
        levyRefused();
        rulers();
        fullOnesRule();
        exactions();
        payers();
        payersInOrder();
        anyStatus();
        whatIsEmpty();
        half();
        whoIsDrawn();
        riseRefused();
        laws();
        amnesty();
        oathAndDecrees();
        oaths();
        whoRuled();
        twoRisings();
        C.end();
    }
}
