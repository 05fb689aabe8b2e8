import java.util.List;

/** Promises 1 and 35 to 41, sentence by sentence: what is asked, pass, bell, tell, digest; what is refused changes nothing. */
public final class EdgesAnswersTest {
    private static final Checks C = new Checks();
    private static final int[] FAR = {Integer.MIN_VALUE, Integer.MAX_VALUE};

    /** A city with something of each kind in it. */
    private static Kleroterion busy() {
        Kleroterion x = new Kleroterion();
        x.found(30, 3);
        x.enroll(0, 70, 300, 15);
        x.enroll(1, 59, 250, 6);
        x.stand(2, 0);
        x.fill(0);
        x.stand(4, 2);
        x.seat();
        Checks.tillChair(x);
        for (int k = 0; k < 3; k++) x.move(k, 0, k, 7, 0);
        x.move(5, 5, 0, 7, 60);
        x.move(5, 3, 0, 7, 60);
        x.move(5, 2, 0, 7, 60);
        x.assembly();
        x.move(6, 1, 3, 7, 0);
        x.lease(7, 0, 20);
        x.lease(8, 1, 30);
        x.ally(10, 50);
        x.ally(20, 10);
        x.sue(9, 10, 0, 40, 7);
        x.sue(11, 12, 1, 40, 7);
        if (x.city(12) > 0) x.challenge(13, 0, 50);
        return x;
    }

    /** Lets DAYS go by, one by one: 40 at once, or one 40 times. */
    private static void pass() {
        Kleroterion one = busy();
        Kleroterion many = busy();
        C.due("41: the same calls", one.digest(), many.digest());
        for (int year = 0; year < 3; year++) {
            int day = one.city(0);
            for (int k = 1; k <= 40; k++) C.due("35: the DAY then", one.pass(1), day + k);
            C.due("35: the DAY then", many.pass(40), day + 40);
            C.due("35: one by one", many.digest(), one.digest());
        }
        for (int days : new int[] {0, -1, 41, FAR[0], FAR[1]}) C.noArgument("35: " + days, one, () -> one.pass(days));
        Kleroterion last = new Kleroterion();
        for (int k = 0; k < 10; k++) last.pass(40);
        for (int days : new int[] {0, -1, 41, FAR[0], FAR[1]}) C.noArgument("35: " + days + ", ahead of the last DAY", last, () -> last.pass(days));
        for (int days : new int[] {1, 40}) C.noState("35: above 400", last, () -> last.pass(days));
    }

    /** What is asked changes nothing, of a new object, of a busy one, without the people's rule. */
    private static void asking() {
        for (Kleroterion x : List.of(new Kleroterion(), busy(), Checks.overthrown())) {
            long before = x.digest();
            Checks.numbers(x);
            for (int c = 0; c < x.city(5); c++) x.tell(c);
            for (int status = 0; status < 6; status++) x.roll(status, 0, -1);
            C.due("0: what is asked changes nothing", x.digest(), before);
            C.due("38: sound", x.isSound(), true);
        }
        for (int what : new int[] {-1, 15, FAR[0], FAR[1]}) {
            C.noArgument("36: what " + what, busy(), () -> busy().city(what));
            C.noArgument("24: what " + what, busy(), () -> busy().jury(what));
            C.noArgument("27: what " + what, busy(), () -> busy().money(what));
            C.noArgument("9: what " + what, busy(), () -> busy().council(what));
        }
    }

    /** It wraps around as a 64-bit integer; with nobody, with 40, with 12 DECREES, 8 suits, 8 MOTIONS. */
    private static void digest() {
        Kleroterion full = Checks.three();
        for (int k = 0; k < 37; k++) full.enroll(1 + k % 7, 20, 50, 5);
        full.seat();
        for (int k = 0; k < 8; k++) full.move(k, 0, k, 5, 0);
        full.assembly();
        full.pass(1);
        for (int k = 0; k < 8; k++) full.move(k, 0, k, 5, 0);
        full.assembly();
        for (int k = 0; k < 8; k++) full.move(k, k % 6, k, 5, 0);
        for (int k = 0; k < 8; k++) full.sue(k, k + 8, 0, 10, 5);
        C.due("3: twelve DECREES", full.city(12), 12);
        C.due("3: eight MOTIONS", full.city(11), 8);
        C.due("7: eight suits", full.jury(6), 8);
        C.due("1: 40 CITIZENS", full.city(5), 40);
        for (Kleroterion x : List.of(new Kleroterion(), busy(), full, Checks.overthrown())) {
            long d = 58261L;
            for (long v : Checks.numbers(x)) d = d * 31 + v;
            C.due("41: digest", x.digest(), d);
        }
        C.due("41: of a new object, told by hand", new Kleroterion().digest(), ofNew());
    }

    /** By the promises alone: 95 numbers of an object without CITIZENS. */
    private static long ofNew() {
        long d = 58261L;
        int[] city = {0, 0, 0, 0, 0, 0, 0, 0, 1, -1, -1, 0, 0, 0, 0};
        int[] council = {0, 0, -1, -1, 0};
        int[] money = {300, 0, 0, 0, 0, 0, 0, 0, 0};
        for (int v : city) d = d * 31 + v;
        for (int v : council) d = d * 31 + v;
        for (int v : money) d = d * 31 + v;
        for (int k = 0; k < 7; k++) d = d * 31;
        for (int k = 0; k < 8; k++) d = d * 31 - 1;
        for (int o = 0; o < 7; o++) for (int v : new int[] {-1, 0, -1, 0}) d = d * 31 + v;
        for (int k = 0; k < 20; k++) d = d * 31;
        return d * 31 + 1;
    }

    /** If several exceptions apply, the one that is named first is thrown: nobody, ahead of what the state does not let. */
    private static void order() {
        Kleroterion x = Checks.overthrown();
        x.enroll(0, 40, 0, 15);
        C.noState("5: the people do not rule", x, () -> x.appeal(3));
        C.noIndex("5: nobody, ahead of that", x, () -> x.appeal(4));
        C.noIndex("10: nobody, ahead of that", x, () -> x.move(4, 0, 0, 5, 0));
        C.noArgument("10: a wrong TOPIC, ahead of that", x, () -> x.move(3, 0, 8, 5, 0));
        C.noIndex("11: no MOTION, ahead of a wrong LEAN", x, () -> x.amend(0, -1));
        C.noIndex("16: no OFFICE, ahead of one who WAITS", x, () -> x.stand(3, 7));
        C.noIndex("16: nobody, ahead of no OFFICE", x, () -> x.stand(4, 7));
        C.noIndex("17: no OFFICE, ahead of the people", x, () -> x.fill(-1));
        C.noIndex("19: nobody, ahead of one who WAITS", x, () -> x.sue(3, 4, 0, 1, 5));
        C.noArgument("19: a wrong PROOF, ahead of one who WAITS", x, () -> x.sue(3, 0, 0, 1, 16));
        C.noArgument("19: both the same, ahead of one who WAITS", x, () -> x.sue(3, 3, 0, 1, 5));
        C.noIndex("20: no DECREE, ahead of one who WAITS", x, () -> x.challenge(3, 0, 201));
        C.noIndex("25: no LEASE, ahead of one who WAITS", x, () -> x.lease(3, 3, 1));
        C.noIndex("25: nobody, ahead of a wrong RENT", x, () -> x.lease(4, 0, 0));
        C.noArgument("25: a wrong RENT, ahead of one who WAITS", x, () -> x.lease(3, 0, 101));
        C.noIndex("28: nobody, ahead of no BURDEN", x, () -> x.claim(0, 4));
        C.noArgument("28: both the same, ahead of no BURDEN", x, () -> x.claim(0, 0));
        C.noIndex("29: nobody, ahead of no BURDEN", x, () -> x.bear(4));
        C.noArgument("33: no TRIBES", x, () -> x.levy(0));
        C.noArgument("34: a wrong LEAN", x, () -> x.rise(16, true));
        Kleroterion full = new Kleroterion();
        full.found(40, 0);
        for (int k = 0; k < 4; k++) full.ally(1, 1);
        for (int k = 0; k < 8; k++) full.sue(0, 1, 0, 1, 5);
        for (int k = 0; k < 8; k++) full.move(0, 0, 0, 5, 0);
        C.noArgument("2: a wrong AGE, ahead of 40", full, () -> full.enroll(0, 17, 0, 5));
        C.noArgument("2: a wrong WEALTH, ahead of 40", full, () -> full.enroll(0, 18, 301, 5));
        C.noArgument("3: too many, ahead of 40", full, () -> full.found(41, 0));
        C.noArgument("10: a wrong AMOUNT, ahead of 8", full, () -> full.move(0, 0, 0, 5, 301));
        C.noIndex("10: nobody, ahead of 8", full, () -> full.move(40, 0, 0, 5, 0));
        C.noIndex("19: nobody, ahead of 8", full, () -> full.sue(0, 40, 0, 1, 5));
        C.noArgument("19: a wrong KIND, ahead of 8", full, () -> full.sue(0, 1, 2, 1, 5));
        C.noArgument("26: a wrong TRIBUTE, ahead of 4", full, () -> full.ally(0, 1));
        C.noArgument("33: a wrong set, ahead of no WAR", full, () -> full.levy(16));
        C.noArgument("34: a wrong LEAN, ahead of the people", full, () -> full.rise(-1, true));
    }

    /** Each answer of city() in a state that is known. */
    private static void city() {
        Kleroterion x = Checks.three();
        x.enroll(1, 20, 200, 5);
        x.enroll(0, 20, 10, 15);
        x.seat();
        x.move(0, 0, 0, 5, 0);
        x.move(0, 5, 0, 5, 33);
        x.assembly();
        x.move(0, 0, 0, 5, 0);
        x.levy(8);
        x.pass(11);
        int draws = x.city(4);
        int[] due = {11, 0, 1, x.city(3), draws, 5, 4, 3, 1, -1, 23, 1, 1, 0, 3};
        for (int k = 0; k < 15; k++) C.due("36: city " + k, x.city(k), due[k]);
        C.due("36: LUCK is 0 to 63", x.city(3) >= 0 && x.city(3) < 64, true);
        x.pass(29);
        x.bear(3);
        C.due("36: SHIPS of this YEAR", x.city(13), 1);
        x.pass(40);
        C.due("36: not of the one that was", x.city(13), 0);
    }

    /** That STATUS, at least that AGE, of that TRIBE, or NONE for all. */
    private static void roll() {
        Kleroterion x = Checks.three();
        x.enroll(0, 41, 0, 15);
        x.enroll(4, 39, 0, 15);
        x.enroll(1, 70, 0, 5);
        x.enroll(5, 18, 0, 5);
        int[][] due = {{1, 0, -1, 6}, {1, 18, -1, 6}, {1, 19, -1, 5}, {1, 40, -1, 4}, {1, 41, -1, 1}, {1, 70, -1, 1}, {1, 71, -1, 0},
            {1, 99, -1, 0}, {1, 0, 0, 4}, {1, 40, 0, 3}, {1, 0, 1, 2}, {1, 0, 2, 0}, {1, 0, 3, 0}, {0, 0, -1, 1}, {0, 41, 0, 1}, {0, 42, 0, 0},
            {0, 0, 1, 0}, {2, 0, -1, 0}, {3, 0, -1, 0}, {4, 0, -1, 0}, {5, 0, -1, 0}};
        for (int[] d : due) C.due("37: roll of " + d[0] + ", " + d[1] + ", " + d[2], x.roll(d[0], d[1], d[2]), d[3]);
        for (int tribe : new int[] {-2, 4, FAR[0], FAR[1]}) {
            C.noIndex("37: TRIBE " + tribe, x, () -> x.roll(0, 0, tribe));
            C.noIndex("37: TRIBE " + tribe + ", ahead of a wrong STATUS and AGE", x, () -> x.roll(6, 100, tribe));
        }
        for (int status : new int[] {-1, 6, FAR[0], FAR[1]}) C.noArgument("37: STATUS " + status, x, () -> x.roll(status, 0, -1));
        for (int least : new int[] {-1, 100, FAR[0], FAR[1]}) C.noArgument("37: AGE " + least, x, () -> x.roll(1, least, 3));
        x.pass(40);
        C.due("37: a YEAR later", x.roll(1, 41, 0), 3);
        for (int k = 0; k < 4; k++) x.pass(40);
        C.due("37: DEAD", x.roll(4, 75, 1), 1);
    }

    /** Refused calls of others are not REFUSED rings; nothing but rings counts. */
    private static void bell() {
        Kleroterion x = new Kleroterion();
        C.due("39: the first one", x.bell(), 1);
        C.noState("12: refused", x, x::assembly);
        C.due("39: with this", x.bell(), 2);
        x.found(8, 0);
        x.pass(40);
        long before = x.digest();
        for (int k = 3; k < 60; k++) C.due("39: ever", x.bell(), k);
        C.due("39: who rings it holds nothing", x.digest(), before);
        C.due("39: of another object", new Kleroterion().bell(), 1);
    }

    /** Each word, with and without what one is; CHAIR with that word alone. */
    private static void tell() {
        Kleroterion x = Checks.three();
        C.due("40: full", x.tell(0), "0 of 0: full");
        x.enroll(7, 70, 0, 5);
        x.enroll(2, 40, 10, 5);
        x.enroll(0, 40, 0, 15);
        x.enroll(0, 40, 0, 15);
        x.enroll(1, 20, 100, 5);
        x.stand(4, 2);
        x.fill(2);
        C.due("40: office", x.tell(4), "4 of 2: full office 2");
        C.due("40: waits", x.tell(5), "5 of 0: waits");
        x.appeal(6);
        C.due("40: struck", x.tell(6), "6 of 0: struck");
        x.seat();
        Checks.tillChair(x);
        for (int c = 0; c < 3; c++) C.due("40: of the COUNCIL", x.tell(c), c + " of 0: full " + (c == x.council(2) ? "chair" : "council"));
        x.sue(7, 4, 1, 11, 5);
        x.court();
        C.due("40: out, in OFFICE", x.tell(4), "4 of 2: out office 2");
        x.pass(40 - x.city(0));
        C.due("40: out", x.tell(4), "4 of 2: out");
        for (int k = 0; k < 4; k++) x.pass(40);
        C.due("40: dead", x.tell(3), "3 of 7: dead");
        for (int who : new int[] {-1, 8, FAR[0], FAR[1]}) C.noIndex("40: CITIZEN " + who, x, () -> x.tell(who));
        Kleroterion y = new Kleroterion();
        C.noIndex("40: nobody is there", y, () -> y.tell(0));
        y.found(40, 0);
        C.due("40: two ciphers", y.tell(39), "39 of 7: full");
        y.pass(20);
        int exile = y.sherds();
        C.due("40: exiled", y.tell(exile), exile + " of " + exile % 8 + ": exiled");
        Kleroterion z = new Kleroterion();
        for (int k = 0; k < 7; k++) z.enroll(k < 3 ? k : k - 3, 40, 150, 5);
        int[] offices = {0, 1, 2, 3, 4, 5, 6};
        int[] holders = {0, 1, 2, 3, 4, 5, 6};
        for (int o : offices) {
            z.stand(holders[o], o);
            z.fill(o);
        }
        for (int o : offices) C.due("40: OFFICE " + o, z.tell(o), o + " of " + (o < 3 ? o : o - 3) + ": full office " + o);
    }

    public static void main(String[] args) {
        pass();
        asking();
        digest();
        order();
        city();
        roll();
        bell();
        tell();
        C.end();
    }
}
