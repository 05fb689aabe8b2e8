/** Promises 10 to 15: move, amend, assembly, ofDecree, law, would. */
public final class AssemblyTest {
    private static final Checks C = new Checks();

    /** VIEWS 5, 5, 5, 9, 15, 15, 15, 15; only the first three can judge or be in the COUNCIL. */
    private static Kleroterion eight() {
        Kleroterion x = Checks.three();
        x.enroll(1, 20, 0, 9);
        x.enroll(2, 20, 0, 15);
        x.enroll(3, 20, 0, 15);
        x.enroll(5, 20, 0, 15);
        x.enroll(6, 20, 0, 15);
        return x;
    }

    private static void move() {
        Kleroterion x = eight();
        C.due("without a COUNCIL any LEAN", x.move(4, 0, 0, 15, 0), 0);
        x.seat();
        C.due("all of the COUNCIL", x.move(0, 5, 7, 10, 300), 1);
        C.due("nobody of the COUNCIL", x.move(0, 0, 0, 11, 0), -2);
        C.due("not on the AGENDA", x.city(11), 2);
        C.noIndex("nobody, ahead of a wrong KIND", x, () -> x.move(8, 6, 0, 0, 0));
        C.noIndex("below 0", x, () -> x.move(-1, 0, 0, 0, 0));
        int[][] wrong = {{-1, 0, 5, 0}, {6, 0, 5, 0}, {0, -1, 5, 0}, {0, 8, 5, 0}, {0, 0, -1, 0}, {0, 0, 16, 0}, {0, 0, 5, -1}, {0, 0, 5, 301}};
        for (int[] w : wrong) C.noArgument("move " + java.util.Arrays.toString(w), x, () -> x.move(0, w[0], w[1], w[2], w[3]));
        for (int k = 2; k < 8; k++) C.due("the next one", x.move(0, 0, 0, 5, 0), k);
        C.noState("there are 8", x, () -> x.move(0, 0, 0, 5, 0));
        C.noArgument("ahead of that: a wrong LEAN", x, () -> x.move(0, 0, 0, 16, 0));
        x.enroll(1, 20, 0, 0);
        C.due("one more WAITS", x.ofCitizen(8, 6), 0);
        x.assembly();
        C.noState("the mover WAITS", x, () -> x.move(8, 0, 0, 5, 0));
        x.sue(4, 3, 1, 10, 15);
        x.court();
        C.due("BARRED", x.ofCitizen(4, 8), 40);
        C.due("by a FINE of 10 also OUT", x.ofCitizen(4, 6), 2);
        Kleroterion y = Checks.overthrown();
        C.noState("the people do not rule", y, () -> y.move(0, 0, 0, 5, 0));
        C.noArgument("ahead of that: a wrong KIND", y, () -> y.move(0, 6, 0, 5, 0));
    }

    private static void barred() {
        Kleroterion x = Checks.three();
        x.enroll(1, 20, 50, 5);
        x.enroll(2, 20, 0, 5);
        x.sue(3, 4, 1, 10, 15);
        x.court();
        C.due("FULL", x.ofCitizen(3, 6), 1);
        C.due("BARRED up to", x.ofCitizen(3, 8), 40);
        C.noState("moves", x, () -> x.move(3, 0, 0, 5, 0));
        C.noState("sues", x, () -> x.sue(3, 4, 1, 10, 5));
        x.pass(39);
        C.noState("on DAY 39", x, () -> x.move(3, 0, 0, 5, 0));
        x.pass(1);
        C.due("on DAY 40", x.move(3, 0, 0, 5, 0), 0);
        C.due("sues again", x.sue(3, 4, 1, 10, 5), 0);
    }

    /** Half of the COUNCIL, of three with the VIEW 5 and three with 15. */
    private static void halfOfCouncil() {
        Kleroterion x = Checks.three();
        for (int k = 0; k < 3; k++) x.enroll(1, 40, 0, 15);
        C.due("seat", x.seat(), 6);
        C.due("half is enough", x.move(0, 0, 0, 0, 0), 0);
        C.due("half of the others too", x.move(0, 0, 0, 15, 0), 1);
    }

    private static void amend() {
        Kleroterion x = eight();
        x.move(0, 0, 0, 5, 0);
        C.due("by 3", x.amend(0, 8), 5);
        C.due("by 3 back", x.amend(0, 5), 8);
        C.due("the same", x.amend(0, 5), 5);
        C.noArgument("by 4", x, () -> x.amend(0, 9));
        C.noArgument("by -4", x, () -> x.amend(0, 1));
        C.noIndex("no such MOTION", x, () -> x.amend(1, 99));
        C.noIndex("below 0", x, () -> x.amend(-1, 5));
        x.amend(0, 2);
        C.noArgument("-1", x, () -> x.amend(0, -1));
        C.noArgument("the least number", x, () -> x.amend(0, Integer.MIN_VALUE));
        x.move(0, 0, 0, 15, 0);
        C.noArgument("16", x, () -> x.amend(1, 16));
    }

    /** On DAY 0 those PRESENT are 1, 2, 3, 5, 6, 7. */
    private static void assembly() {
        Kleroterion x = eight();
        C.due("PRESENT", x.city(14), 6);
        x.move(0, 0, 1, 8, 0);
        x.move(0, 0, 2, 10, 0);
        x.move(0, 1, 3, 13, 0);
        x.move(0, 1, 4, 10, 0);
        C.due("half is not enough", x.would(0), -1);
        C.due("all", x.would(1), 6);
        C.due("four of six", x.would(2), 4);
        C.noIndex("no such MOTION", x, () -> x.would(4));
        C.noIndex("below 0", x, () -> x.would(-1));
        C.noState("no CHAIR", x, x::assembly);
        x.seat();
        C.due("PASS", x.assembly(), 14);
        C.due("it costs 6 / 4, and 3 for each board", x.money(0), 300 - 1 - 3 - 3);
        C.due("the AGENDA is empty", x.city(11), 0);
        C.due("a board against it", x.law(3), -1);
        C.due("a board for it", x.law(4), 10);
        C.due("no LAW by a DECREE", x.law(2), -1);
        C.due("the latest board", x.jury(1), 3);
        C.due("one DECREE", x.city(12), 1);
        int[] due = {0, 2, 10, 0, 1};
        for (int k = 0; k < 5; k++) C.due("of the DECREE " + k, x.ofDecree(0, k), due[k]);
        C.noIndex("no such DECREE", x, () -> x.ofDecree(1, 5));
        C.noIndex("below 0", x, () -> x.ofDecree(-1, 0));
        C.noArgument("-1", x, () -> x.ofDecree(0, -1));
        C.noArgument("5", x, () -> x.ofDecree(0, 5));
        C.noIndex("TOPIC -1", x, () -> x.law(-1));
        C.noIndex("TOPIC 8", x, () -> x.law(8));
        C.noState("there was one this DAY", x, x::assembly);
        x.pass(1);
        C.due("PRESENT are others", x.city(14), 6);
        C.due("nothing to vote on", x.assembly(), 0);
        Kleroterion y = Checks.overthrown();
        C.noState("the people do not rule", y, y::assembly);
    }

    private static void money() {
        Kleroterion x = Checks.three();
        x.seat();
        x.move(0, 2, 0, 5, 100);
        x.move(0, 3, 0, 5, 201);
        x.move(0, 3, 0, 5, 200);
        x.move(0, 2, 0, 5, 1);
        C.due("all PASS", x.assembly(), 15);
        C.due("PURSE", x.money(2), 100);
        C.due("CHEST: the TREASURY had not 201, but 200", x.money(1), 200);
        C.due("TREASURY", x.money(0), 0);
        C.due("paid out", x.money(8), 300);
    }

    private static void war() {
        Kleroterion x = Checks.three();
        x.seat();
        x.move(0, 5, 0, 5, 0);
        x.move(0, 5, 0, 5, 50);
        C.due("PASS", x.assembly(), 3);
        C.due("the first one is on, of the strength 0", x.city(10), 0);
    }

    /** Who was sent away by sherds is called back by two thirds of enough. */
    private static void callBack() {
        Kleroterion x = eight();
        x.enroll(0, 20, 0, 5);
        x.enroll(0, 29, 0, 5);
        x.pass(20);
        C.due("named by the VIEWS 5, 5, 5 and 9", x.sherds(), 4);
        C.due("EXILED", x.ofCitizen(4, 6), 3);
        x.pass(20);
        for (int k = 0; k < 30 && x.council(2) == -1; k++) x.pass(1);
        C.due("a CHAIR of TRIBE 0", x.ofCitizen(x.council(2), 1), 0);
        int present = x.city(14);
        int full = x.city(6);
        C.due("FULL ones", full, 9);
        C.due("enough are PRESENT", 10 * present >= 6 * full, true);
        x.move(1, 4, 0, 10, 40);
        x.move(1, 4, 0, 10, 1);
        x.move(1, 4, 0, 5, 4);
        C.due("less than two thirds", x.would(2), -1);
        C.due("nobody, one who is FULL", x.assembly(), 3);
        C.due("EXILED still", x.ofCitizen(4, 6), 3);
        x.pass(1);
        x.move(1, 4, 0, 10, 4);
        C.due("called back", x.assembly(), 1);
        C.due("FULL", x.ofCitizen(4, 6), 1);
    }

    /** KIND 4: 4 of 6 PRESENT are two thirds; 6 of 10 FULL ones are enough, 6 of 11 not. */
    private static void enoughForCallBack() {
        Kleroterion x = eight();
        x.move(0, 4, 0, 13, 0);
        C.due("two thirds", x.would(0), 4);
        x.pass(3);
        C.due("PRESENT on DAY 3: not 1, not 5", x.city(14), 6);
        C.due("VIEWS 9, 15, 15, 15", x.would(0), 4);
        Kleroterion few = new Kleroterion();
        for (int k = 0; k < 2; k++) few.enroll(0, 40, 0, 5);
        few.move(0, 4, 0, 5, 0);
        C.due("one of two is not 6 of 10", few.would(0), -1);
        few.pass(1);
        C.due("both", few.would(0), 2);
        Kleroterion none = Checks.three();
        none.move(0, 4, 0, 5, 0);
        none.pass(40);
        C.due("they are there", none.would(0), 2);
    }

    private static void holds() {
        Kleroterion x = Checks.three();
        x.enroll(1, 20, 300, 5);
        x.seat();
        x.move(0, 0, 2, 4, 0);
        x.move(0, 0, 2, 6, 0);
        x.move(0, 0, 3, 1, 0);
        x.move(0, 1, 3, 7, 0);
        C.due("PASS", x.assembly(), 15);
        C.due("a later one HOLDS", x.ofDecree(0, 4), 0);
        C.due("that", x.ofDecree(1, 4), 1);
        C.due("differs from the LAW by 6", x.ofDecree(2, 4), 1);
        C.due("suit against the later one", x.challenge(3, 1, 50), 0);
        C.due("it waits", x.ofDecree(1, 4), 0);
        C.due("so the earlier one HOLDS", x.ofDecree(0, 4), 1);
        C.due("PROOF is (6 + 8) modulo 16", x.ofSuit(0, 4), 14);
        x.court();
        C.due("LOST", x.jury(4), 1);
        C.due("the later one HOLDS again", x.ofDecree(1, 4), 1);
        C.due("and the earlier one not", x.ofDecree(0, 4), 0);
        x.pass(1);
        x.move(0, 1, 3, 8, 0);
        x.assembly();
        C.due("differs from the new LAW by 7", x.ofDecree(2, 4), 0);
        C.due("sound", x.isSound(), true);
    }

    private static void twelve() {
        Kleroterion x = Checks.three();
        x.seat();
        for (int k = 0; k < 8; k++) x.move(0, 0, k, 5, 0);
        C.due("eight PASS", x.assembly(), 255);
        x.pass(1);
        for (int k = 0; k < 5; k++) x.move(1, 0, k, 6, 0);
        x.assembly();
        C.due("twelve are kept", x.city(12), 12);
        C.due("the oldest one is gone", x.ofDecree(0, 1), 1);
        C.due("the latest one", x.ofDecree(11, 1), 4);
        C.due("of DAY 1", x.ofDecree(11, 3), 1);
        C.due("by 1", x.ofDecree(11, 0), 1);
    }

    public static void main(String[] args) {
        move();
        barred();
        halfOfCouncil();
        amend();
        assembly();
        money();
        war();
        callBack();
        enoughForCallBack();
        holds();
        twelve();
        C.end();
    }
}
