import java.util.ArrayList;
import java.util.List;

/** Sections 9, 10 and promises 28 to 31, sentence by sentence: BURDENS, claims, CHORUSES, the festival. */
public final class EdgesBurdensTest {
    private static final Checks C = new Checks();
    private static final int[] FAR = {Integer.MIN_VALUE, Integer.MAX_VALUE};

    /** Those of DEMES 0 and 4 in turn (TRIBE 0), of 20 years, with the VIEW 5, by their WEALTH; then a YEAR begins. */
    private static Kleroterion told(int... wealth) {
        Kleroterion x = new Kleroterion();
        for (int k = 0; k < wealth.length; k++) x.enroll(k % 2 * 4, 20, wealth[k], 5);
        x.pass(40);
        return x;
    }

    private static void burdens(String when, Kleroterion x, int... due) {
        for (int k = 0; k < due.length; k++) C.citizen("9: " + when, x, k, 12, due[k]);
    }

    /** The greatest WEALTH has a SHIP, the next greatest a CHORUS (of several the smallest number), of CLASS 3 alone. */
    private static void whoHasThem() {
        burdens("the greatest, the next one", told(130, 200, 120, 150), 0, 1, 0, 2);
        burdens("all alike", told(200, 200, 200), 1, 2, 0);
        burdens("the next ones alike", told(150, 200, 150), 2, 1, 0);
        burdens("119 is not CLASS 3", told(119, 120), 0, 1);
        burdens("nobody of CLASS 3", told(119, 0, 50), 0, 0, 0);
        burdens("nobody is there", told());
        Kleroterion x = new Kleroterion();
        for (int k = 0; k < 8; k++) x.enroll(k, 20, 200 + k, 5);
        C.due("9: none on DAY 0", x.ofTribe(0, 1), 0);
        x.pass(40);
        burdens("TRIBE by TRIBE", x, 2, 2, 2, 2, 1, 1, 1, 1);
        for (int t = 0; t < 4; t++) C.due("31: not done", x.ofTribe(t, 1), 2);
        x.bear(0);
        x.bear(5);
        int[] due = {1, 1, 2, 2};
        for (int t = 0; t < 4; t++) C.due("31: not done", x.ofTribe(t, 1), due[t]);
    }

    /** FULL ones alone: the richest WAITS, or is OUT. */
    private static void fullAlone() {
        Kleroterion x = new Kleroterion();
        x.enroll(0, 20, 150, 5);
        x.enroll(0, 20, 300, 15);
        x.pass(40);
        burdens("who WAITS has none", x, 1, 0);
        Kleroterion y = new Kleroterion();
        y.enroll(0, 20, 300, 5);
        y.enroll(0, 20, 140, 5);
        y.pass(40);
        burdens("a SHIP, a CHORUS", y, 1, 2);
        for (int k = 0; k < 3; k++) y.lease(1, k, 100);
        y.pass(40);
        C.citizen("1: OUT", y, 1, 6, 2);
        burdens("both had one", y, 0, 0);
        y.pass(40);
        burdens("who is OUT has none", y, 1, 0);
    }

    /** Nor has one who is OUT of CLASS 3: by a claim both exchange, so that 3 has 300, of which a SHIP costs 40. */
    private static void richButOut() {
        Kleroterion x = Checks.three();
        x.enroll(1, 20, 130, 5);
        x.enroll(2, 20, 50, 5);
        x.pass(40);
        x.sue(4, 3, 1, 150, 5);
        x.court();
        C.citizen("1: OUT", x, 3, 6, 2);
        x.enroll(5, 20, 300, 5);
        C.due("28: both exchange", x.claim(3, 5), 2);
        C.due("29: one who is OUT bears", x.bear(3), 1);
        C.citizen("9: WEALTH", x, 3, 4, 260);
        x.pass(40);
        x.pass(40);
        C.citizen("1: OUT still", x, 3, 6, 2);
        C.citizen("9: none in the YEAR 3", x, 3, 12, 0);
        C.due("6: PAYS", x.pay(3), 20);
        x.pass(40);
        C.citizen("9: a SHIP as one who is FULL", x, 3, 12, 1);
    }

    /** Who had one as the YEAR that was ended has none: done or not; two YEARS later that one can have one again. */
    private static void everyOtherYear() {
        for (int done = 0; done <= 1; done++) {
            Kleroterion x = told(300, 280, 130);
            burdens("YEAR 1", x, 1, 2, 0);
            if (done == 1) x.bear(0);
            if (done == 1) x.bear(1);
            x.pass(40);
            burdens("YEAR 2", x, 0, 0, 1);
            C.citizen("9: 60 if not done, 40 if done", x, 0, 4, done == 1 ? 260 : 240);
            x.pass(40);
            burdens("YEAR 3", x, 1, 2, 0);
        }
        Kleroterion one = told(300);
        int[] due = {1, 0, 1, 0, 1};
        for (int k = 0; k < 5; k++) {
            burdens("one alone in YEAR " + (k + 1), one, due[k]);
            one.pass(40);
        }
        C.citizen("9: each time 60", one, 0, 4, 120);
    }

    /** A BURDEN that was claimed away is had by the other one: the claimer can have one as the next YEAR begins. */
    private static void hadByTheOther() {
        Kleroterion x = told(200, 100);
        x.enroll(0, 20, 300, 4);
        C.due("28: the VIEW 4 is even", x.claim(0, 2), 1);
        burdens("in place of the claimer", x, 0, 0, 1);
        C.due("31: one, not done", x.ofTribe(0, 1), 1);
        x.pass(40);
        C.citizen("9: a FINE of 60 for the other one", x, 2, 4, 240);
        C.citizen("9: none for the claimer", x, 0, 4, 200);
        burdens("the claimer had none as the YEAR ended", x, 1, 0, 0);
    }

    /** The WEALTH of the other one: less, as much, one more; with an even and an odd VIEW; of a SHIP and a CHORUS. */
    private static void claims() {
        for (int who = 0; who <= 1; who++) {
            for (int view = 4; view <= 5; view++) {
                for (int more = -1; more <= 1; more++) {
                    Kleroterion x = told(200, 180);
                    int own = who == 0 ? 200 : 180;
                    x.enroll(4, 20, own + more, view);
                    int due = more <= 0 ? 0 : view == 4 ? 1 : 2;
                    C.due("28: one of " + (own + more) + " with the VIEW " + view, x.claim(who, 2), due);
                    burdens("of both", x, who == 0 && due == 1 ? 0 : 1, who == 1 && due == 1 ? 0 : 2, due == 1 ? who + 1 : 0);
                    C.citizen("9: WEALTH of the claimer", x, who, 4, due == 2 ? own + 1 : own);
                    C.citizen("9: WEALTH of the other one", x, 2, 4, due == 2 ? own : own + more);
                    x.enroll(4, 20, 300, 4);
                    int w = who;
                    C.noState("9: each one once a YEAR, whatever comes of it", x, () -> x.claim(w, 3));
                    if (due == 1) C.due("9: the other one can in turn", x.claim(2, 3), 1);
                    if (due == 1) C.noState("9: who has none any more", x, () -> x.bear(w));
                }
            }
        }
    }

    /** Once a YEAR: in the next one that has a BURDEN again. */
    private static void claimAgain() {
        Kleroterion x = told(300);
        x.enroll(0, 20, 10, 5);
        C.due("28: nothing comes of it", x.claim(0, 1), 0);
        C.noState("9: once a YEAR", x, () -> x.claim(0, 1));
        x.pass(40);
        C.noState("9: has none", x, () -> x.claim(0, 1));
        x.pass(40);
        C.due("28: in the YEAR 3", x.claim(0, 1), 0);
        C.noState("9: once a YEAR", x, () -> x.claim(0, 1));
    }

    /** The other one is FULL, of that TRIBE, without a BURDEN (done or not); the claimer FULL or OUT, and has one that is not done. */
    private static void claimRefused() {
        Kleroterion x = new Kleroterion();
        x.enroll(0, 20, 200, 5);
        x.enroll(4, 20, 180, 5);
        x.enroll(4, 20, 170, 5);
        x.enroll(1, 20, 100, 4);
        x.enroll(0, 20, 300, 15);
        x.enroll(4, 20, 0, 5);
        x.pass(40);
        burdens("of TRIBE 0", x, 1, 2, 0, 0, 0, 0);
        C.noState("9: of another TRIBE", x, () -> x.claim(0, 3));
        C.noState("9: the other one WAITS", x, () -> x.claim(0, 4));
        C.noState("9: the other one has a BURDEN", x, () -> x.claim(0, 1));
        C.noState("9: the claimer has none", x, () -> x.claim(2, 5));
        C.noState("9: nor one who WAITS", x, () -> x.claim(4, 2));
        C.noArgument("28: both are the same", x, () -> x.claim(0, 0));
        C.noArgument("28: both are the same, and have none", x, () -> x.claim(3, 3));
        for (int who : new int[] {-1, 6, FAR[0], FAR[1]}) {
            C.noIndex("28: claimer " + who, x, () -> x.claim(who, 0));
            C.noIndex("28: other " + who, x, () -> x.claim(0, who));
            C.noIndex("28: both " + who, x, () -> x.claim(who, who));
        }
        x.bear(1);
        C.noState("9: done", x, () -> x.claim(1, 2));
        C.noState("9: the other one did a BURDEN", x, () -> x.claim(0, 1));
    }

    /** The claimer is OUT, or the other one is. */
    private static void claimOfOut() {
        Kleroterion x = Checks.three();
        x.enroll(1, 20, 100, 5);
        x.enroll(2, 20, 200, 5);
        x.enroll(6, 20, 50, 4);
        x.enroll(6, 20, 0, 4);
        x.pass(40);
        C.citizen("9: a SHIP", x, 4, 12, 1);
        x.sue(3, 4, 1, 199, 5);
        x.sue(3, 6, 1, 1, 5);
        x.court();
        x.pass(1);
        x.sue(3, 4, 1, 3, 5);
        x.court();
        C.citizen("1: OUT", x, 4, 6, 2);
        C.citizen("1: the BURDEN stays", x, 4, 12, 1);
        C.noState("9: the other one is OUT", x, () -> x.claim(4, 6));
        C.due("9: who is OUT claims", x.claim(4, 5), 1);
        C.citizen("9: that one has it", x, 5, 12, 1);
        C.due("38: sound", x.isSound(), true);
        C.due("29: and does it", x.bear(5), 1);
    }

    /** To BEAR: SHIPS are counted; a CHORUS has a SPLENDOUR of 10 + 10 * CLASS, ahead of the cost of 40. */
    private static void splendours() {
        int[][] due = {{0, 40}, {80, 40}, {81, 30}, {140, 30}, {141, 20}, {180, 20}, {181, 10}, {200, 10}};
        for (int[] d : due) {
            Kleroterion x = Checks.three();
            x.enroll(1, 20, 100, 5);
            x.enroll(2, 20, 300, 5);
            x.enroll(6, 20, 200, 5);
            x.pass(40);
            C.citizen("9: a CHORUS", x, 5, 12, 2);
            if (d[0] > 0) x.sue(3, 5, 1, d[0], 5);
            x.court();
            int wealth = 200 - d[0];
            C.citizen("7: WEALTH", x, 5, 4, wealth);
            int took = x.money(7);
            C.due("29: SPLENDOUR by a WEALTH of " + wealth, x.bear(5), d[1]);
            C.due("31: SPLENDOUR", x.ofTribe(2, 2), d[1]);
            C.citizen("9: it costs 40", x, 5, 4, Math.max(0, wealth - 40));
            C.citizen("9: as a FINE", x, 5, 7, Math.max(0, 40 - wealth));
            C.citizen("1: STATUS", x, 5, 6, wealth < 40 ? 2 : 1);
            C.due("27: it came in", x.money(7) - took, Math.min(40, wealth));
            C.citizen("9: the BURDEN stays", x, 5, 12, 2);
            C.noState("29: it is done", x, () -> x.bear(5));
            C.due("36: no SHIP by that", x.city(13), 0);
        }
    }

    /** WEALTH of just 40 leaves no DEBT; of one who is OUT it is more DEBT. */
    private static void bearing() {
        for (int fine = 159; fine <= 161; fine++) {
            Kleroterion x = Checks.three();
            x.enroll(1, 20, 100, 5);
            x.enroll(2, 20, 200, 5);
            x.pass(40);
            x.sue(3, 4, 1, fine, 5);
            x.court();
            C.due("29: SHIPS", x.bear(4), 1);
            C.citizen("9: DEBT", x, 4, 7, Math.max(0, fine - 160));
            C.citizen("1: STATUS", x, 4, 6, fine > 160 ? 2 : 1);
            C.noState("29: done", x, () -> x.bear(4));
        }
        Kleroterion x = Checks.three();
        x.enroll(1, 20, 100, 5);
        x.enroll(2, 20, 130, 5);
        x.pass(40);
        x.sue(3, 4, 1, 150, 5);
        x.court();
        C.citizen("1: OUT", x, 4, 6, 2);
        C.due("31: not done, of one who is OUT", x.ofTribe(2, 1), 1);
        C.due("29: one who is OUT bears", x.bear(4), 1);
        C.citizen("9: DEBT", x, 4, 7, 60);
        C.due("31: done", x.ofTribe(2, 1), 0);
        x.pass(40);
        C.citizen("0: so no FINE", x, 4, 7, 60);
        Kleroterion y = Checks.three();
        y.enroll(1, 20, 100, 5);
        y.enroll(2, 20, 130, 5);
        y.pass(40);
        y.sue(3, 4, 1, 150, 5);
        y.court();
        y.pass(39);
        C.citizen("1: OUT", y, 4, 7, 20);
        y.pass(1);
        C.citizen("0: 60 of one who is OUT", y, 4, 7, 80);
        for (int who : new int[] {-1, 5, FAR[0], FAR[1]}) C.noIndex("29: CITIZEN " + who, y, () -> y.bear(who));
        C.noState("29: has none", y, () -> y.bear(0));
        Kleroterion none = told(100);
        C.noState("29: nobody has one", none, () -> none.bear(0));
    }

    /** Of the TRIBES that are told, two of each are rich, with these WEALTHS; of each TRIBE the next greatest bears. */
    private static Kleroterion choruses(int seatings, int tribes, int more) {
        Kleroterion x = new Kleroterion();
        for (int s = 0; s < seatings; s++) x.seat();
        for (int t = 0; t < 4; t++) {
            if ((tribes >> t & 1) == 0) continue;
            x.enroll(t, 20, 300, (4 * t + seatings) % 16);
            x.enroll(t + 4, 20, 200, (4 * t + 9 + seatings) % 16);
        }
        for (int k = 0; k < more; k++) x.enroll(k % 4, 20, 0, x.ofCitizen(0, 3));
        x.pass(40);
        for (int c = 0; c < x.city(5); c++) if (x.ofCitizen(c, 12) == 2) C.due("29: SPLENDOUR", x.bear(c), 40);
        return x;
    }

    private static int belowZero = 0;
    private static int votesTied = 0;
    private static int winsTied = 0;

    /** Greatest RANK, 8 more for the own TRIBE, less what VIEW and 4 * TRIBE differ by; of several the smallest TRIBE. */
    private static int vote(Kleroterion x, int judge, int[] ranks) {
        int best = -1;
        int most = 0;
        for (int t = 0; t < 4; t++) {
            if (x.ofTribe(t, 2) == 0) continue;
            int value = ranks[t] + (x.ofCitizen(judge, 1) == t ? 8 : 0) - Math.abs(x.ofCitizen(judge, 3) - 4 * t);
            if (best != -1 && value == most) votesTied++;
            if (best == -1 || value > most) {
                best = t;
                most = value;
            }
        }
        if (best != -1 && most <= 0) belowZero++;
        return best;
    }

    private static final List<Integer> DRAWN = new ArrayList<>();

    /** The TRIBE that will win. */
    private static int foretold(Kleroterion x) {
        Checks.Luck luck = new Checks.Luck(x);
        DRAWN.clear();
        int[] ranks = new int[4];
        for (int t = 0; t < 4; t++) {
            if (x.ofTribe(t, 2) == 0) continue;
            ranks[t] = x.ofTribe(t, 2) + luck.draw(20);
            DRAWN.add(20);
        }
        List<Integer> left = new ArrayList<>();
        for (int c = 0; c < x.city(5); c++) if (x.ofCitizen(c, 6) == 1) left.add(c);
        List<Integer> judges = new ArrayList<>();
        while (judges.size() < 5 && !left.isEmpty()) {
            DRAWN.add(left.size());
            judges.add(left.remove(luck.draw(left.size())));
        }
        List<Integer> opened = new ArrayList<>(judges);
        if (judges.size() == 5) {
            opened.clear();
            for (int k = 0; k < 3; k++) {
                DRAWN.add(judges.size());
                opened.add(judges.remove(luck.draw(judges.size())));
            }
        }
        int[] votes = new int[4];
        for (int judge : opened) votes[vote(x, judge, ranks)]++;
        int best = 0;
        for (int t = 1; t < 4; t++) {
            if (votes[t] == votes[best] && votes[t] > 0) winsTied++;
            if (votes[t] > votes[best]) best = t;
        }
        return best;
    }

    private static void hold(Kleroterion x) {
        int due = foretold(x);
        int draws = x.city(4) + DRAWN.size();
        int many = x.city(5);
        int[] wealth = new int[many];
        int[] won = new int[4];
        for (int c = 0; c < many; c++) wealth[c] = x.ofCitizen(c, 4) + (x.ofCitizen(c, 6) == 1 && x.ofCitizen(c, 1) == due ? 1 : 0);
        for (int t = 0; t < 4; t++) won[t] = x.ofTribe(t, 3) + (t == due ? 1 : 0);
        int unrest = Math.max(0, x.city(7) - 3);
        int treasury = x.money(0);
        C.due("30: the TRIBE that wins", x.festival(), due);
        C.due("10: DRAWS", x.city(4), draws);
        for (int c = 0; c < many; c++) C.citizen("10: 1 more of WEALTH for FULL ones of it", x, c, 4, wealth[c]);
        for (int t = 0; t < 4; t++) C.due("31: festivals won", x.ofTribe(t, 3), won[t]);
        C.due("10: UNREST is 3 less", x.city(7), unrest);
        C.due("10: the PURSE is 0", x.money(2), 0);
        C.due("10: the TREASURY pays nothing", x.money(0), treasury);
        C.noState("30: there was one this YEAR", x, x::festival);
    }

    /** Two, three, four CHORUSES, with 4 to 12 FULL ones, with each LUCK of some. */
    private static void festivals() {
        for (int tribes : new int[] {3, 5, 9, 6, 10, 12, 7, 11, 13, 14, 15}) {
            for (int seatings = 0; seatings < 16; seatings++) hold(choruses(seatings, tribes, seatings % 4));
        }
        C.due("10: of several the smallest TRIBE", votesTied > 0 && winsTied > 0, true);
    }

    /** Three who judge suits (TRIBE 3), and CHORUSES of TRIBES 0, 1, 2 (as many as there are losses) of those who lost so much first. */
    private static Kleroterion uneven(int seatings, int view, int... losses) {
        Kleroterion x = new Kleroterion();
        for (int s = 0; s < seatings; s++) x.seat();
        for (int k = 0; k < 3; k++) x.enroll(3, 40, 0, view);
        x.enroll(7, 20, 0, view);
        for (int t = 0; t < losses.length; t++) {
            x.enroll(t, 20, 300, view);
            x.enroll(t + 4, 20, 200, view);
        }
        x.pass(40);
        for (int t = 0; t < losses.length; t++) {
            if (losses[t] == 0) continue;
            x.sue(3, 5 + 2 * t, 0, losses[t], view);
            C.due("7: tried", x.court(), 1);
            x.pass(1);
        }
        for (int t = 0; t < losses.length; t++) {
            int wealth = 200 - losses[t];
            C.due("29: SPLENDOUR", x.bear(5 + 2 * t), wealth < 20 ? 10 : wealth < 60 ? 20 : wealth < 120 ? 30 : 40);
        }
        return x;
    }

    /** The greatest RANK by SPLENDOUR; with a SPLENDOUR of 10 and a VIEW of 15 what one votes for can be below 0. */
    private static void unevenFestivals() {
        int[][] losses = {{0, 81}, {81, 0}, {141, 0, 81}, {190, 141, 100}, {100, 190, 0}, {0, 0, 190}};
        for (int[] l : losses) for (int seatings = 0; seatings < 8; seatings++) hold(uneven(seatings, 2 * seatings, l));
        for (int seatings = 0; seatings < 64; seatings++) hold(uneven(seatings, 15, 190, 190));
        C.due("10: greatest of those below 0, too", belowZero > 0, true);
    }

    /** A TRIBE that had a CHORUS in the YEAR 1, but has none in the YEAR 3, has no RANK then. */
    private static void chorusOfOtherYear() {
        for (int seatings = 0; seatings < 16; seatings++) {
            Kleroterion x = choruses(seatings, 7, 1);
            hold(x);
            x.pass(40);
            x.pass(40);
            for (int c = 0; c < 6; c++) if (x.ofCitizen(c, 12) == 2 && x.ofCitizen(c, 1) != 2) x.bear(c);
            C.due("31: no CHORUS of TRIBE 2", x.ofTribe(2, 2), 0);
            hold(x);
        }
    }

    /**
     * One who did a SHIP is EXILED by sherds, called back in that YEAR, and gets the CHORUS of another one by a claim:
     * that is not done. The first LUCK with a CHAIR in the PRYTANY 2 or 3 of the YEAR 1.
     */
    private static void calledBack() {
        for (int seatings = 0; seatings < 64; seatings++) {
            Kleroterion x = new Kleroterion();
            for (int s = 0; s < seatings; s++) x.seat();
            for (int k = 0; k < 3; k++) x.enroll(0, 40, 0, 5);
            x.enroll(1, 20, 300, 14);
            x.enroll(5, 20, 200, 5);
            for (int deme : new int[] {2, 3, 6, 7, 2, 3, 6}) x.enroll(deme, 20, 0, 5);
            x.pass(40);
            C.due("29: a SHIP", x.bear(3), 1);
            x.pass(20);
            for (int d = 0; d < 19 && x.council(2) == -1; d++) x.pass(1);
            if (x.council(2) == -1) continue;
            x.move(0, 4, 0, 5, 3);
            C.due("11: EXILED", x.sherds(), 3);
            C.citizen("1: no BURDEN", x, 3, 12, 0);
            if (x.would(0) == -1) continue;
            C.due("3: called back", x.assembly(), 1);
            C.citizen("3: FULL", x, 3, 6, 1);
            C.citizen("1: no BURDEN", x, 3, 12, 0);
            C.due("28: the VIEW 14 is even", x.claim(4, 3), 1);
            C.citizen("9: a CHORUS", x, 3, 12, 2);
            C.due("31: not done", x.ofTribe(1, 1), 1);
            C.due("29: SPLENDOUR", x.bear(3), 40);
            C.citizen("9: it costs 40, twice", x, 3, 4, 220);
            C.noState("29: done", x, () -> x.bear(3));
            return;
        }
        C.due("9: one LUCK does", false, true);
    }

    /** With five JUDGES just three votes are opened; with four all are, and nothing more is DRAWN. */
    private static void opened() {
        for (int more = 0; more <= 2; more++) {
            Kleroterion x = choruses(0, 9, more);
            C.due("1: FULL ones", x.city(6), 4 + more);
            int draws = x.city(4);
            hold(x);
            C.due("10: DRAWS", x.city(4) - draws, 2 + Math.min(5, 4 + more) + (more > 0 ? 3 : 0));
        }
    }

    /** With two CHORUSES or more; once a YEAR, but in the next one again. */
    private static void festivalRefused() {
        Kleroterion none = new Kleroterion();
        C.noState("30: none on DAY 0", none, none::festival);
        for (int tribes : new int[] {0, 1, 8}) {
            Kleroterion x = choruses(0, tribes, 1 % (tribes + 1));
            C.noState("30: less than 2 CHORUSES", x, x::festival);
        }
        Kleroterion x = choruses(0, 3, 0);
        x.pass(39);
        hold(x);
        C.noState("30: once a YEAR", x, x::festival);
        x.pass(1);
        C.noState("30: the CHORUSES are gone", x, x::festival);
        x.pass(40);
        for (int c = 0; c < 4; c++) if (x.ofCitizen(c, 12) == 2) x.bear(c);
        hold(x);
    }

    /** Two CHORUSES of the YEAR 3, and an UNREST of 24 by ALLIES, so that the people do not rule from DAY 130 on. */
    private static Kleroterion withoutRule(int seatings) {
        Kleroterion x = new Kleroterion();
        for (int s = 0; s < seatings; s++) x.seat();
        x.enroll(0, 20, 300, 1);
        x.enroll(0, 20, 280, 3);
        x.enroll(2, 20, 300, 10);
        x.enroll(2, 20, 280, 12);
        for (int year = 1; year <= 3; year++) {
            for (int k = 0; k < 4; k++) x.ally(1, 99);
            x.pass(40);
        }
        x.bear(1);
        x.bear(3);
        x.pass(10);
        C.due("14: the people do not rule", x.city(8), 0);
        return x;
    }

    /** The people need not rule. All who are FULL are EXILED, then none to six are enrolled: they judge. */
    private static void few() {
        Kleroterion unruled = withoutRule(0);
        hold(unruled);
        C.due("10: 3 less of 24", unruled.city(7), 21);
        for (int full = 0; full <= 6; full++) {
            for (int seatings = 0; seatings < 4; seatings++) {
                Kleroterion x = withoutRule(seatings);
                for (int k = 0; k < 4 && x.ofCitizen(3, 6) == 1; k++) x.rise(15, true);
                C.due("14: the people rule", x.rise(2, false), true);
                C.due("36: nobody is FULL", x.city(6), 0);
                C.noState("30: nobody is FULL", x, x::festival);
                for (int k = 0; k < full; k++) x.enroll(1 + k, 40, 0, (5 * k + seatings) % 16);
                C.due("36: FULL ones", x.city(6), full);
                if (full > 0) hold(x);
            }
        }
    }

    /** PURSE / 10 / (how many CHORUSES) * 5 is the same for each, so the answer tells nothing of it; it is 0 then. UNREST of 2 is 0 then. */
    private static void purse() {
        for (int fights = 0; fights <= 2; fights++) {
            Kleroterion x = Checks.three();
            for (int t = 1; t < 3; t++) {
                x.enroll(t, 20, 300, 5);
                x.enroll(t + 4, 20, 200, 5);
            }
            for (int k = 0; k < fights; k++) x.ally(1, 99);
            x.pass(40);
            Checks.tillChair(x);
            x.move(0, 2, 0, 5, 97);
            C.due("12: PASSES", x.assembly(), 1);
            C.due("27: PURSE", x.money(2), 97);
            C.due("8: UNREST", x.city(7), 2 * fights);
            x.bear(4);
            x.bear(6);
            hold(x);
            C.due("0, 10: UNREST, 0 at least", x.city(7), fights == 2 ? 1 : 0);
        }
    }

    /** Those who are OUT have nothing of it, nor do they judge. */
    private static void outNothing() {
        Kleroterion x = Checks.three();
        for (int t = 1; t < 3; t++) {
            x.enroll(t, 20, 300, 5);
            x.enroll(t + 4, 20, 200, 5);
        }
        x.pass(40);
        for (int c = 4; c <= 6; c += 2) x.sue(3, c, 1, 170, 5);
        x.court();
        C.due("29: CLASS 1", x.bear(4) + x.bear(6), 40);
        C.citizen("1: OUT", x, 4, 6, 2);
        C.citizen("1: OUT", x, 6, 6, 2);
        C.due("36: five judge", x.city(6), 5);
        hold(x);
    }

    private static void ofTribeRefused() {
        Kleroterion x = Checks.three();
        for (int tribe : new int[] {-1, 4, FAR[0], FAR[1]}) C.noIndex("31: TRIBE " + tribe + ", ahead of a wrong what", x, () -> x.ofTribe(tribe, 5));
        for (int what : new int[] {-1, 5, FAR[0], FAR[1]}) C.noArgument("31: what " + what, x, () -> x.ofTribe(3, what));
        int[] full = {3, 0, 0, 0};
        for (int t = 0; t < 4; t++) C.due("31: FULL ones", x.ofTribe(t, 0), full[t]);
    }

    public static void main(String[] args) {
        whoHasThem();
        fullAlone();
        richButOut();
        everyOtherYear();
        hadByTheOther();
        claims();
        claimAgain();
        claimRefused();
        claimOfOut();
        splendours();
        bearing();
        festivals();
        unevenFestivals();
        chorusOfOtherYear();
        calledBack();
        opened();
        festivalRefused();
        few();
        purse();
        outNothing();
        ofTribeRefused();
        C.end();
    }
}
