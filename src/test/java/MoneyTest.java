import java.util.ArrayList;
import java.util.List;

/** Promises 25 to 31: lease, ally, money, claim, bear, festival, ofTribe. */
public final class MoneyTest {
    private static final Checks C = new Checks();

    private static void lease() {
        Kleroterion x = Checks.three();
        C.due("it is free", x.lease(0, 2, 1), -1);
        C.noArgument("not above that of now", x, () -> x.lease(1, 2, 1));
        C.due("above it", x.lease(1, 2, 2), 0);
        C.due("above the own one", x.lease(1, 2, 100), 1);
        C.due("another one", x.lease(1, 0, 30), -1);
        C.due("all RENT", x.money(3), 130);
        C.noArgument("0", x, () -> x.lease(0, 1, 0));
        C.noArgument("101", x, () -> x.lease(0, 1, 101));
        C.noIndex("no such LEASE", x, () -> x.lease(0, 3, 0));
        C.noIndex("below 0", x, () -> x.lease(0, -1, 5));
        C.noIndex("no such CITIZEN", x, () -> x.lease(3, 0, 50));
        x.enroll(0, 40, 100, 15);
        C.noState("who WAITS", x, () -> x.lease(3, 1, 5));
        C.noArgument("who WAITS, wrongly", x, () -> x.lease(3, 0, 30));
        x.pass(40);
        C.due("both paid", x.ofCitizen(1, 4), 0);
        C.due("what is lacking", x.ofCitizen(1, 7), 30);
        C.due("who bid once pays nothing", x.ofCitizen(0, 4), 100);
        C.due("all are free", x.money(3), 0);
        C.due("OUT", x.ofCitizen(1, 6), 2);
        C.noState("who is OUT", x, () -> x.lease(1, 0, 5));
        C.due("free", x.lease(0, 0, 1), -1);
    }

    private static void ally() {
        Kleroterion x = Checks.three();
        int[][] wrong = {{0, 1}, {61, 1}, {1, 0}, {1, 100}};
        for (int[] w : wrong) C.noArgument("ally " + java.util.Arrays.toString(w), x, () -> x.ally(w[0], w[1]));
        C.due("ally", x.ally(60, 20), 1);
        C.due("ally", x.ally(50, 21), 2);
        C.due("ally", x.ally(1, 99), 3);
        C.due("ally", x.ally(7, 1), 4);
        C.noState("there are 4", x, () -> x.ally(1, 1));
        C.noArgument("there are 4, wrongly", x, () -> x.ally(0, 1));
        C.due("TRIBUTE", x.money(4), 118);
        x.pass(40);
        C.due("two fall off", x.money(5), 2);
        C.due("TRIBUTE of those who stay", x.money(4), 67);
        C.due("it came in", x.money(0), 367);
        C.due("UNREST", x.city(7), 4);
        C.noArgument("money -1", x, () -> x.money(-1));
        C.noArgument("money 9", x, () -> x.money(9));
        C.due("taken in", x.money(7), 67);
        C.due("paid out", x.money(8), 0);
    }

    /** Of TRIBE 0: 200, 200, 150, 10; of TRIBE 1: 119. */
    private static Kleroterion rich() {
        Kleroterion x = new Kleroterion();
        x.enroll(0, 20, 200, 5);
        x.enroll(4, 20, 200, 4);
        x.enroll(0, 20, 150, 5);
        x.enroll(4, 20, 10, 4);
        x.enroll(1, 20, 119, 4);
        C.due("none in the first YEAR", x.ofTribe(0, 1), 0);
        x.pass(40);
        return x;
    }

    private static void burdens() {
        Kleroterion x = rich();
        int[] due = {1, 2, 0, 0, 0};
        for (int k = 0; k < 5; k++) C.due("BURDEN of " + k, x.ofCitizen(k, 12), due[k]);
        C.due("not done", x.ofTribe(0, 1), 2);
        C.noState("has none", x, () -> x.bear(2));
        C.noIndex("no such CITIZEN", x, () -> x.bear(5));
        C.due("a SHIP", x.bear(0), 1);
        C.due("SHIPS", x.city(13), 1);
        C.noState("done", x, () -> x.bear(0));
        C.due("it costs 40", x.ofCitizen(0, 4), 160);
        C.due("a BURDEN still", x.ofCitizen(0, 12), 1);
        C.due("not done is one", x.ofTribe(0, 1), 1);
        x.ally(60, 41);
        x.ally(50, 40);
        x.pass(40);
        C.due("60 if not done", x.ofCitizen(1, 4), 140);
        C.due("one falls off with one SHIP", x.money(5), 1);
        C.due("SHIPS are 0", x.city(13), 0);
        int[] next = {0, 0, 1, 0, 0};
        for (int k = 0; k < 5; k++) C.due("BURDEN then of " + k, x.ofCitizen(k, 12), next[k]);
        x.pass(40);
        int[] third = {1, 2, 0, 0, 0};
        for (int k = 0; k < 5; k++) C.due("BURDEN at last of " + k, x.ofCitizen(k, 12), third[k]);
    }

    private static void claim() {
        Kleroterion x = rich();
        C.noIndex("no such CITIZEN", x, () -> x.claim(5, 5));
        C.noIndex("no such other one", x, () -> x.claim(0, -1));
        C.noArgument("both the same", x, () -> x.claim(0, 0));
        C.noState("has no BURDEN", x, () -> x.claim(2, 3));
        C.noState("the other one has one", x, () -> x.claim(0, 1));
        C.noState("of another TRIBE", x, () -> x.claim(0, 4));
        x.enroll(0, 20, 300, 15);
        C.noState("the other one WAITS", x, () -> x.claim(0, 5));
        C.due("not richer", x.claim(0, 2), 0);
        C.noState("once a YEAR", x, () -> x.claim(0, 3));
        x.enroll(4, 20, 200, 4);
        x.enroll(4, 20, 201, 9);
        C.due("as rich is not richer", x.claim(1, 6), 0);
        x.pass(40);
        C.due("SHIP", x.ofCitizen(7, 12), 1);
        C.due("CHORUS", x.ofCitizen(6, 12), 2);
        x.enroll(0, 20, 250, 8);
        x.enroll(0, 20, 280, 9);
        C.due("with an even VIEW that one has it", x.claim(7, 8), 1);
        C.due("the other one", x.ofCitizen(8, 12), 1);
        C.due("the claimer", x.ofCitizen(7, 12), 0);
        C.due("with an odd VIEW both exchange", x.claim(6, 9), 2);
        C.due("the claimer", x.ofCitizen(6, 4), 280);
        C.due("the other one", x.ofCitizen(9, 4), 200);
        C.due("the BURDEN stays", x.ofCitizen(6, 12), 2);
        C.due("who has it now can claim in turn", x.claim(8, 7), 0);
        x.bear(6);
        Kleroterion y = rich();
        y.bear(0);
        C.noState("done", y, () -> y.claim(0, 2));
    }

    private static void chorus() {
        Kleroterion x = rich();
        C.due("CLASS 3 ahead of the cost", x.bear(1), 40);
        C.due("SPLENDOUR", x.ofTribe(0, 2), 40);
        C.noState("one CHORUS", x, x::festival);
        x.pass(40);
        C.due("gone", x.ofTribe(0, 2), 0);
        C.noIndex("TRIBE 4", x, () -> x.ofTribe(4, 9));
        C.noIndex("TRIBE -1", x, () -> x.ofTribe(-1, 0));
        C.noArgument("-1", x, () -> x.ofTribe(0, -1));
        C.noArgument("5", x, () -> x.ofTribe(0, 5));
        C.due("FULL ones", x.ofTribe(0, 0), 4);
    }

    /** VIEWS of those who judge; two of each of TRIBES 0 and 2 are rich. */
    private static Kleroterion choruses(int more, int seatings) {
        Kleroterion x = new Kleroterion();
        x.enroll(0, 20, 200, 1);
        x.enroll(0, 20, 180, 3);
        x.enroll(2, 20, 200, 10);
        x.enroll(2, 20, 180, 12);
        for (int k = 0; k < more; k++) x.enroll(k % 2 == 0 ? 4 : 6, 20, 0, k % 2 == 0 ? 6 : 7);
        for (int k = 0; k < seatings; k++) x.seat();
        x.pass(40);
        x.bear(1);
        x.bear(3);
        return x;
    }

    private static int vote(Kleroterion x, int judge, int[] ranks) {
        int best = -1;
        int most = Integer.MIN_VALUE;
        for (int tribe = 0; tribe < 4; tribe += 2) {
            int value = ranks[tribe] + (x.ofCitizen(judge, 1) == tribe ? 8 : 0) - Math.abs(x.ofCitizen(judge, 3) - 4 * tribe);
            if (value > most) {
                most = value;
                best = tribe;
            }
        }
        return best;
    }

    /** The festival of this YEAR, told ahead; the TRIBE that wins. */
    private static int told(Kleroterion x, int full) {
        Checks.Luck luck = new Checks.Luck(x);
        int[] ranks = new int[4];
        for (int tribe = 0; tribe < 4; tribe += 2) ranks[tribe] = x.ofTribe(tribe, 2) + luck.draw(20);
        List<Integer> left = new ArrayList<>();
        for (int k = 0; k < full; k++) left.add(k);
        List<Integer> votes = new ArrayList<>();
        for (int k = 0; k < Math.min(5, full); k++) votes.add(vote(x, left.remove(luck.draw(left.size())), ranks));
        int opened = votes.size() == 5 ? 3 : votes.size();
        int[] count = new int[4];
        for (int k = 0; k < opened; k++) count[opened == 3 ? votes.remove(luck.draw(votes.size())) : votes.get(k)]++;
        return count[2] > count[0] ? 2 : 0;
    }

    private static void festival() {
        int[] wins = new int[4];
        for (int round = 0; round < 24; round++) {
            int full = 4 + round % 3;
            Kleroterion x = choruses(full - 4, round);
            for (int year = 1; year <= 3; year += 2) {
                int winner = told(x, full);
                int draws = x.city(4) + 2 + Math.min(5, full) + (full > 4 ? 3 : 0);
                int wealth = x.ofCitizen(winner, 4);
                int other = x.ofCitizen(2 - winner, 4);
                int won = x.ofTribe(winner, 3);
                C.due("the TRIBE that wins", x.festival(), winner);
                C.due("DRAWS", x.city(4), draws);
                C.due("1 more", x.ofCitizen(winner, 4), wealth + 1);
                C.due("not the others", x.ofCitizen(2 - winner, 4), other);
                C.due("won", x.ofTribe(winner, 3), won + 1);
                C.noState("once a YEAR", x, x::festival);
                wins[winner]++;
                x.pass(40);
                x.pass(40);
                for (int k = 0; k < 4; k++) if (x.ofCitizen(k, 12) == 2) x.bear(k);
            }
        }
        C.due("either one wins", wins[0] > 0 && wins[2] > 0, true);
    }

    /** Two CHORUSES of the YEAR 3, in which all who are FULL are EXILED. */
    private static void nobodyJudges() {
        Kleroterion x = new Kleroterion();
        x.enroll(0, 20, 300, 1);
        x.enroll(0, 20, 280, 3);
        x.enroll(2, 20, 300, 10);
        x.enroll(2, 20, 280, 12);
        for (int year = 1; year <= 3; year++) {
            for (int k = 0; k < 4; k++) x.ally(1, 99);
            x.pass(40);
        }
        x.bear(1);
        x.bear(3);
        C.due("two CHORUSES", x.ofTribe(0, 2) > 0 && x.ofTribe(2, 2) > 0, true);
        x.pass(10);
        C.due("the people do not rule", x.city(8), 0);
        for (int k = 0; k < 4 && x.ofCitizen(3, 6) == 1; k++) x.rise(15, true);
        C.due("the people rule", x.rise(2, false), true);
        C.due("nobody is FULL", x.city(6), 0);
        C.noState("nobody judges", x, x::festival);
        x.enroll(2, 40, 0, 8);
        Checks.Luck luck = new Checks.Luck(x);
        int[] ranks = {x.ofTribe(0, 2) + luck.draw(20), 0, x.ofTribe(2, 2) + luck.draw(20), 0};
        int winner = vote(x, 4, ranks);
        int draws = x.city(4);
        C.due("one judges", x.festival(), winner);
        C.due("and is DRAWN", x.city(4), draws + 3);
    }

    /** PURSE and UNREST behind a festival. */
    private static void joy() {
        Kleroterion x = choruses(0, 0);
        for (int k = 0; k < 3; k++) x.enroll(1, 40, 100, 5);
        for (int k = 0; k < 4; k++) x.ally(1, 99);
        x.pass(40);
        C.due("UNREST", x.city(7), 8);
        for (int k = 0; k < 40 && x.council(2) == -1; k++) x.pass(1);
        x.move(4, 2, 0, 5, 57);
        x.assembly();
        C.due("PURSE", x.money(2), 57);
        C.noState("the CHORUSES are gone", x, x::festival);
        x.pass(40 - x.city(0) % 40);
        C.due("CHORUSES told", x.bear(1) + x.bear(3), 80);
        C.due("PURSE stays", x.money(2), 57);
        int treasury = x.money(0);
        x.festival();
        C.due("PURSE is 0", x.money(2), 0);
        C.due("UNREST is 3 less", x.city(7), 5);
        C.due("TREASURY is as it was", x.money(0), treasury);
    }

    public static void main(String[] args) {
        lease();
        ally();
        burdens();
        claim();
        chorus();
        festival();
        nobodyJudges();
        joy();
        C.end();
    }
}
