/** Promises 19 to 24: sue, challenge, arbitrate, court, ofSuit, jury. */
public final class CourtsTest {
    private static final Checks C = new Checks();

    /** The three who judge (VIEW 5), and 3 to 6, who are too young for that, with a WEALTH of 50. */
    private static Kleroterion parties() {
        Kleroterion x = Checks.three();
        for (int k = 3; k <= 6; k++) x.enroll(k - 2, 20, 50, 5);
        return x;
    }

    private static void sue() {
        Kleroterion x = parties();
        x.enroll(0, 20, 0, 15);
        C.due("sue", x.sue(3, 4, 0, 19, 6), 0);
        int[] due = {3, 4, 0, 19, 6, 5, 0};
        for (int k = 0; k < due.length; k++) C.due("of the suit " + k, x.ofSuit(0, k), due[k]);
        C.due("who WAITS can be sued", x.sue(3, 7, 1, 200, 15), 1);
        C.due("WATER of a public one", x.ofSuit(1, 5), 20);
        C.noIndex("no such accuser", x, () -> x.sue(8, 8, 9, 0, 0));
        C.noIndex("no such accused", x, () -> x.sue(0, -1, 0, 1, 0));
        int[][] wrong = {{3, 3, 0, 1, 5}, {3, 4, -1, 1, 5}, {3, 4, 2, 1, 5}, {3, 4, 4, 1, 5}, {3, 4, 0, 0, 5}, {3, 4, 0, 201, 5}, {3, 4, 0, 1, -1}, {3, 4, 0, 1, 16}};
        for (int[] w : wrong) C.noArgument("sue " + java.util.Arrays.toString(w), x, () -> x.sue(w[0], w[1], w[2], w[3], w[4]));
        C.noArgument("by one who WAITS, wrongly", x, () -> x.sue(7, 4, 0, 0, 5));
        C.noState("by one who WAITS", x, () -> x.sue(7, 4, 0, 1, 5));
        C.noState("no account", x, () -> x.sue(3, 4, 3, 1, 5));
        for (int k = 2; k < 8; k++) C.due("the next one", x.sue(3, 4, 0, 1, 5), k);
        C.due("wait", x.jury(6), 8);
        C.noState("there are 8", x, () -> x.sue(3, 4, 0, 1, 5));
        C.noIndex("no such suit", x, () -> x.ofSuit(8, 7));
        C.noIndex("below 0", x, () -> x.ofSuit(-1, 0));
        C.noArgument("-1", x, () -> x.ofSuit(0, -1));
        C.noArgument("7", x, () -> x.ofSuit(0, 7));
        C.noArgument("jury -1", x, () -> x.jury(-1));
        C.noArgument("jury 7", x, () -> x.jury(7));
        Kleroterion y = parties();
        y.enroll(0, 20, 0, 15);
        y.appeal(7);
        C.noState("who is STRUCK", y, () -> y.sue(3, 7, 0, 1, 5));
    }

    private static void privately() {
        Kleroterion x = parties();
        x.sue(3, 4, 0, 60, 10);
        x.sue(5, 6, 0, 30, 15);
        C.due("tried", x.court(), 2);
        C.due("the accuser has it", x.ofCitizen(3, 4), 100);
        C.due("as far as WEALTH goes", x.ofCitizen(4, 4), 0);
        C.due("no DEBT by that", x.ofCitizen(4, 7), 0);
        C.due("a LOST private one costs nothing", x.ofCitizen(5, 4), 50);
        C.due("nobody is BARRED", x.ofCitizen(5, 8), 0);
        C.due("JURY", x.jury(0), 3);
        C.due("for the accuser", x.jury(1), 0);
        C.due("of TRIBE 0", x.jury(2), 1);
        C.due("WON", x.jury(3), 1);
        C.due("LOST", x.jury(4), 1);
        C.due("none waits", x.jury(6), 0);
        C.due("3 for each JURY", x.money(0), 294);
        C.noState("once a DAY", x, x::court);
        x.pass(1);
        C.due("nothing to try", x.court(), 0);
        x.sue(0, 4, 0, 10, 5);
        x.pass(1);
        C.due("one of three is of the case", x.court(), 1);
        C.due("so there is no JURY", x.jury(0), 0);
        C.due("and it is LOST", x.jury(4), 2);
    }

    private static void publicly() {
        Kleroterion x = parties();
        x.sue(3, 4, 1, 10, 7);
        x.sue(3, 5, 1, 10, 8);
        x.sue(3, 6, 1, 61, 5);
        C.due("60 of WATER", x.court(), 3);
        C.due("differs by 2: all of it", x.ofCitizen(4, 4), 40);
        C.due("differs by 3: a fourth", x.ofCitizen(5, 4), 47);
        C.due("more than there is", x.ofCitizen(6, 4), 0);
        C.due("is a DEBT", x.ofCitizen(6, 7), 11);
        C.due("OUT", x.ofCitizen(6, 6), 2);
        C.due("TREASURY", x.money(0), 300 - 9 + 10 + 3 + 50);
        C.noState("who is OUT does not sue", x, () -> x.sue(6, 3, 1, 1, 5));
        C.due("but is sued", x.sue(3, 6, 1, 1, 15), 0);
        x.pass(1);
        x.court();
        C.due("less than a fifth: 10", x.ofCitizen(3, 4), 40);
        C.due("BARRED", x.ofCitizen(3, 8), 41);
    }

    /** Two ROWS of each TRIBE, as far as there are: 6, 6 and 3; 3 of 15 are just a fifth. */
    private static void aFifth() {
        Kleroterion x = new Kleroterion();
        for (int k = 0; k < 6; k++) x.enroll(0, 40, 100, 5);
        for (int k = 0; k < 6; k++) x.enroll(1, 40, 100, 5);
        for (int k = 0; k < 3; k++) x.enroll(2, 40, 100, 15);
        x.enroll(3, 40, 100, 5);
        x.enroll(7, 40, 100, 5);
        x.sue(15, 16, 1, 10, 15);
        x.sue(15, 16, 0, 10, 15);
        C.due("both tried", x.court(), 2);
        C.due("1 ROW of each TRIBE with a private one", x.jury(0), 9);
        C.due("TRIBES 0, 1, 2", x.jury(2), 7);
        C.due("no FINE", x.ofCitizen(15, 4), 100);
        C.due("not BARRED", x.ofCitizen(15, 8), 0);
        C.due("15 and 9", x.money(0), 276);
    }

    private static void water() {
        Kleroterion x = parties();
        x.sue(3, 4, 1, 1, 5);
        x.sue(3, 4, 1, 1, 5);
        x.sue(3, 4, 0, 200, 5);
        x.sue(3, 4, 0, 1, 5);
        C.due("24 are more than 20", x.court(), 2);
        C.due("two wait", x.jury(6), 2);
        x.pass(1);
        C.due("then these", x.court(), 2);
        Kleroterion y = parties();
        for (int k = 0; k < 4; k++) y.sue(3, 4, 1, 1, 5);
        C.due("three public ones", y.court(), 3);
        C.due("waits", y.jury(6), 1);
    }

    private static void dropped() {
        Kleroterion x = parties();
        x.enroll(0, 20, 0, 15);
        x.sue(3, 7, 1, 10, 5);
        x.sue(3, 7, 0, 10, 5);
        for (int k = 0; k < 3; k++) x.sue(3, 4, 1, 1, 5);
        x.appeal(7);
        C.due("the dropped ones take no WATER", x.court(), 3);
        C.due("dropped", x.jury(5), 2);
        C.due("LOST", x.jury(4), 0);
        C.due("WON", x.jury(3), 3);
        Kleroterion y = Checks.overthrown();
        C.noState("the people do not rule", y, y::court);
    }

    /** A TREASURY that cannot pay a JURY: UNREST. */
    private static void poor() {
        Kleroterion x = parties();
        x.seat();
        x.move(0, 2, 0, 5, 297);
        x.assembly();
        x.sue(3, 4, 0, 1, 5);
        C.due("4 / 4 was paid for those PRESENT", x.money(0), 2);
        x.court();
        C.due("nothing is left", x.money(0), 0);
        C.due("UNREST", x.city(7), 1);
        C.due("tried nevertheless", x.jury(3), 1);
    }

    private static void challenge() {
        Kleroterion x = parties();
        x.seat();
        x.move(3, 0, 2, 0, 0);
        x.move(3, 0, 3, 4, 0);
        x.move(3, 1, 3, 10, 0);
        x.move(4, 0, 4, 9, 0);
        C.due("all PASS", x.assembly(), 15);
        C.noIndex("no such CITIZEN", x, () -> x.challenge(7, 0, 0));
        C.noIndex("no such DECREE", x, () -> x.challenge(4, 3, 0));
        C.noIndex("below 0", x, () -> x.challenge(4, -1, 1));
        C.noArgument("its mover", x, () -> x.challenge(3, 0, 1));
        C.noArgument("0", x, () -> x.challenge(4, 0, 0));
        C.noArgument("201", x, () -> x.challenge(4, 0, 201));
        C.due("challenge", x.challenge(5, 0, 21), 0);
        int[] due = {5, 3, 2, 21, 8, 20, 0};
        for (int k = 0; k < due.length; k++) C.due("of the suit " + k, x.ofSuit(0, k), due[k]);
        C.noState("once", x, () -> x.challenge(4, 0, 21));
        x.challenge(5, 1, 1);
        C.due("PROOF by the LAW", x.ofSuit(1, 4), 10);
        x.challenge(5, 2, 30);
        C.due("PROOF is (9 + 8) modulo 16", x.ofSuit(2, 4), 1);
        C.noState("not arbitrated", x, () -> x.arbitrate(0));
        C.due("all tried", x.court(), 3);
        C.due("all WON", x.jury(3), 3);
        C.due("half of 21, half of 1", x.ofCitizen(3, 4), 40);
        C.due("half of 30", x.ofCitizen(4, 4), 35);
        C.due("its mover is BARRED", x.ofCitizen(3, 8), 40);
        C.due("VOID", x.ofDecree(0, 4), 0);
        C.noState("VOID or not, it was sued for", x, () -> x.challenge(4, 0, 21));
        C.noState("by one who is BARRED", x, () -> x.challenge(3, 2, 21));
    }

    private static void late() {
        Kleroterion x = parties();
        x.seat();
        x.move(3, 0, 2, 0, 0);
        x.move(3, 0, 3, 0, 0);
        x.assembly();
        x.pass(40);
        C.due("40 DAYS old", x.challenge(4, 0, 10), 0);
        x.pass(1);
        C.noState("41 DAYS old", x, () -> x.challenge(4, 1, 10));
        Kleroterion y = parties();
        y.seat();
        y.move(3, 0, 2, 0, 0);
        y.assembly();
        y.challenge(4, 0, 10);
        y.pass(1);
        for (int k = 0; k < 8; k++) y.move(3, 0, k, 5, 0);
        y.assembly();
        y.pass(1);
        for (int k = 0; k < 4; k++) y.move(3, 0, k, 5, 0);
        y.assembly();
        C.due("it is kept no more", y.ofDecree(0, 3), 1);
        C.due("not tried", y.court(), 0);
        C.due("but dropped", y.jury(5), 1);
    }

    private static void arbitrate() {
        Kleroterion x = parties();
        C.noIndex("no such suit", x, () -> x.arbitrate(0));
        x.sue(3, 4, 0, 50, 5);
        C.due("nobody who could", x.arbitrate(0), -1);
        C.due("so it was not", x.ofSuit(0, 6), 0);
        x.enroll(1, 59, 0, 5);
        x.enroll(1, 60, 0, 5);
        C.due("the VIEW 5 is odd", x.arbitrate(0), 0);
        C.due("one DRAW", x.city(4), 1);
        C.due("it goes to court", x.ofSuit(0, 6), 1);
        C.noState("once", x, () -> x.arbitrate(0));
        x.sue(3, 4, 0, 51, 5);
        C.noState("51", x, () -> x.arbitrate(1));
        x.sue(3, 4, 1, 50, 5);
        C.noState("public", x, () -> x.arbitrate(2));
        C.noIndex("below 0", x, () -> x.arbitrate(-1));
        x.sue(7, 4, 0, 50, 5);
        C.due("nobody but the accuser", x.arbitrate(3), -1);
        x.enroll(2, 20, 30, 4);
        C.due("FULL", x.ofCitizen(9, 6), 1);
        x.sue(3, 9, 0, 40, 10);
        C.due("for the accuser", x.arbitrate(4), 1);
        C.due("as far as WEALTH goes", x.ofCitizen(3, 4), 80);
        C.due("it waits no more", x.jury(6), 4);
        x.sue(9, 3, 0, 40, 11);
        C.due("for the accused", x.arbitrate(4), 2);
        C.due("nothing is paid", x.ofCitizen(3, 4), 80);
        for (int k = 3; k <= 5; k++) C.due("neither WON nor LOST nor dropped", x.jury(k), 0);
    }

    private static void account() {
        Kleroterion x = parties();
        x.enroll(3, 40, 100, 5);
        x.stand(7, 6);
        x.fill(6);
        x.pass(40);
        C.due("on account", x.sue(3, 7, 3, 40, 5), 0);
        C.due("twice", x.sue(3, 7, 3, 40, 5), 1);
        int before = x.ofCitizen(7, 4);
        x.court();
        C.due("WON", x.jury(3), 2);
        C.due("a FINE for each", x.ofCitizen(7, 4), before - 80);
        C.noState("it is owed no more", x, () -> x.sue(3, 7, 3, 40, 5));
    }

    public static void main(String[] args) {
        sue();
        privately();
        publicly();
        aFifth();
        water();
        dropped();
        poor();
        challenge();
        late();
        arbitrate();
        account();
        C.end();
    }
}
