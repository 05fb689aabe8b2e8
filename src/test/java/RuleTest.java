/** Promises 32 to 36: sherds, levy, rise, pass, city. */
public final class RuleTest {
    private static final Checks C = new Checks();

    private static void sherds() {
        Kleroterion x = new Kleroterion();
        x.found(8, 0);
        C.noState("PRYTANY 0", x, x::sherds);
        x.pass(19);
        C.noState("PRYTANY 1", x, x::sherds);
        x.pass(1);
        C.due("PRYTANY 2", x.sherds(), 0);
        C.due("UNREST", x.city(7), 1);
        C.due("EXILED", x.ofCitizen(0, 6), 3);
        x.pass(10);
        C.noState("once a YEAR", x, x::sherds);
        Kleroterion few = new Kleroterion();
        for (int k = 0; k < 7; k++) few.enroll(k, 40, k, 5);
        few.pass(20);
        C.due("PRESENT: 1, 2, 3, 5, 6", few.city(14), 5);
        C.due("five are not enough", few.sherds(), -1);
        C.noState("but it was done", few, few::sherds);
        few.pass(40);
        few.enroll(7, 40, 100, 5);
        C.due("all differ by 0, the greatest WEALTH; that one names 6", few.sherds(), 7);
        Kleroterion tie = new Kleroterion();
        for (int k = 0; k < 8; k++) tie.enroll(k, 40, 0, k < 4 ? 0 : 15);
        tie.pass(21);
        C.due("1, 2, 0 name 4, and 4, 5, 6 name 0", tie.sherds(), 0);
        C.noState("the people do not rule, PRYTANY 2", late(), () -> late().sherds());
    }

    private static Kleroterion late() {
        Kleroterion x = Checks.overthrown();
        x.pass(10);
        return x;
    }

    /** Two HOPLITES of TRIBE 0, four rowers of TRIBE 1, with a general, SHIPS and a CHEST. */
    private static void levy() {
        Kleroterion x = new Kleroterion();
        for (int k = 0; k < 3; k++) x.enroll(0, 40, 130, 5);
        for (int k = 0; k < 8; k++) x.enroll(1, 18, 19, 5);
        x.enroll(1, 59, 20, 5);
        x.enroll(2, 60, 300, 5);
        x.enroll(3, 40, 100, 15);
        C.noArgument("0", x, () -> x.levy(0));
        C.noArgument("16", x, () -> x.levy(16));
        C.noState("no WAR", x, () -> x.levy(15));
        x.pass(40);
        C.due("a CHORUS of TRIBE 0", x.ofCitizen(1, 12), 2);
        C.due("SHIP", x.bear(0), 1);
        C.due("SHIP", x.bear(12), 2);
        for (int k = 0; k < 40 && x.council(2) == -1; k++) x.pass(1);
        x.stand(11, 4);
        x.fill(4);
        C.due("general of TRIBE 1", x.ofOffice(4, 0), 11);
        x.move(1, 5, 0, 5, 1);
        x.move(1, 3, 0, 5, 57);
        C.due("both PASS", x.assembly(), 3);
        C.due("WAR", x.city(10), 1);
        Checks.Luck luck = new Checks.Luck(x);
        int enemy = 1 + luck.draw(40);
        // HOPLITES 0, 1, 2 (60 years old is 11 now, and 61 is 12); 8 rowers man 2 SHIPS
        int might = 3 * 3 + 5 + 20 + 5;
        C.due("11 is too old by now", x.ofCitizen(11, 2), 60);
        int draws = x.city(4);
        C.due("MIGHT less the ENEMY", x.levy(7), might - enemy);
        C.due("CHEST is 28 less", x.money(1), 29);
        C.due("one for the ENEMY, one for each HOPLITE", x.city(4), draws + 4);
        boolean isWon = might > enemy;
        int dead = 0;
        for (int k = 0; k < 3; k++) {
            boolean isDead = luck.draw(isWon ? 16 : 8) == 0;
            dead += isDead ? 1 : 0;
            C.due("DEAD or not", x.ofCitizen(k, 6), isDead ? 4 : 1);
        }
        C.due("dead by wars", x.ofTribe(0, 4), dead);
        C.due("WAR then", x.city(10), isWon ? -1 : 0);
        C.noState("no WAR, or once a DAY", x, () -> x.levy(7));
    }

    private static void lost() {
        Kleroterion x = Checks.three();
        x.seat();
        x.move(0, 5, 0, 5, 14);
        x.assembly();
        int enemy = 14 + new Checks.Luck(x).draw(40);
        C.due("nobody comes", x.levy(8), -enemy);
        C.due("10 less", x.city(10), 4);
        C.due("UNREST", x.city(7), 3);
        C.noState("once a DAY", x, () -> x.levy(1));
        x.pass(1);
        x.levy(8);
        C.due("0 at least", x.city(10), 0);
        x.pass(1);
        x.levy(8);
        C.due("it is on still", x.city(10), 0);
        C.due("UNREST", x.city(7), 9);
    }

    private static void won() {
        Kleroterion x = Checks.three();
        for (int k = 0; k < 18; k++) x.enroll(3, 20, 100, 5);
        x.seat();
        x.move(0, 5, 0, 5, 10);
        x.assembly();
        x.levy(4);
        C.due("UNREST", x.city(7), 3);
        x.pass(1);
        Checks.Luck luck = new Checks.Luck(x);
        int treasury = x.money(0);
        int enemy = luck.draw(40);
        C.due("18 HOPLITES", x.levy(8), 54 - enemy);
        C.due("won", x.city(10), -1);
        C.due("UNREST is 2 less", x.city(7), 1);
        C.due("takes in the strength of 0", x.money(0), treasury);
        int dead = 0;
        for (int k = 0; k < 18; k++) dead += luck.draw(16) == 0 ? 1 : 0;
        C.due("dead of 18", x.ofTribe(3, 4), dead);
        x.move(0, 5, 0, 5, 5);
        x.assembly();
        C.noState("another WAR, but once a DAY", x, () -> x.levy(8));
        x.pass(1);
        C.due("with 5 it is won", x.levy(8) > 0, true);
        C.due("takes in 5", x.money(7), 5);
    }

    /** 3, 4, 5 have the greatest WEALTH; 6 to 9 are of CLASS 3 too. */
    private static Kleroterion oligarchs(boolean isOverthrown) {
        Kleroterion x = Checks.three();
        x.enroll(1, 20, 300, 5);
        x.enroll(1, 20, 300, 5);
        x.enroll(2, 20, 200, 5);
        x.enroll(2, 20, 150, 5);
        x.enroll(2, 20, 140, 5);
        x.enroll(5, 20, 130, 5);
        x.enroll(6, 20, 122, 9);
        if (isOverthrown) Checks.overthrow(x, 5);
        return x;
    }

    private static void overthrow() {
        Kleroterion x = oligarchs(false);
        x.seat();
        Checks.loseSevenTimes(x, 5);
        C.due("UNREST", x.city(7), 21);
        x.pass(2);
        x.move(0, 0, 0, 5, 0);
        C.due("till the PRYTANY begins", x.city(8), 1);
        C.due("nobody RULES", x.city(9), -1);
        x.pass(1);
        C.due("the people do not rule", x.city(8), 0);
        C.due("the first one", x.city(9), 3);
        C.due("no COUNCIL", x.council(0), 0);
        C.due("no CHAIR", x.council(2), -1);
        C.due("no AGENDA", x.city(11), 0);
        C.due("nothing is paid yet", x.ofCitizen(6, 4), 150);
        x.pass(10);
        int[] due = {100, 100, 100, 310, 305, 205, 145, 135, 125, 117};
        for (int k = 0; k < 10; k++) C.due("WEALTH of " + k, x.ofCitizen(k, 4), due[k]);
        x.pass(10);
        int[] next = {100, 100, 100, 315, 310, 210, 140, 130, 120, 117};
        for (int k = 0; k < 10; k++) C.due("WEALTH then of " + k, x.ofCitizen(k, 4), next[k]);
        x.pass(10);
        C.due("paid ahead of the BURDENS", x.ofCitizen(8, 4), 115);
        C.due("these are told", x.ofCitizen(3, 12), 1);
        C.due("no COUNCIL is drawn", x.council(0), 0);
        C.due("by UNREST nobody new", x.city(9), 3);
    }

    private static void failing() {
        Kleroterion x = oligarchs(true);
        C.noArgument("LEAN -1", x, () -> x.rise(-1, true));
        C.noArgument("LEAN 16", x, () -> x.rise(16, true));
        int draws = x.city(4);
        C.due("one of ten AGREES with 14", x.rise(14, true), false);
        C.due("that one is EXILED", x.ofCitizen(9, 6), 3);
        C.due("one DRAW", x.city(4), draws + 1);
        C.due("nobody AGREES", x.rise(15, false), false);
        C.due("nobody is EXILED", x.roll(3, 0, -1), 1);
        C.due("no DRAW", x.city(4), draws + 1);
        Kleroterion half = Checks.three();
        for (int k = 0; k < 3; k++) half.enroll(1, 20, 0, 15);
        Checks.overthrow(half, 10);
        C.due("overthrown", half.city(8), 0);
        Checks.Luck luck = new Checks.Luck(half);
        C.due("half is not enough", half.rise(15, true), false);
        C.due("one of the three", half.ofCitizen(3 + luck.draw(3), 6), 3);
        half.enroll(2, 20, 0, 5);
        C.due("more than half", half.rise(5, true), true);
        C.due("the people rule", half.city(8), 1);
        C.due("UNREST", half.city(7), 0);
    }

    private static void withoutOath() {
        Kleroterion x = oligarchs(true);
        x.enroll(3, 20, 300, 5);
        x.sue(0, 6, 1, 10, 5);
        C.due("the people rule again", x.rise(10, false), true);
        for (int k = 3; k <= 5; k++) C.due("who RULED", x.ofCitizen(k, 6), 3);
        C.due("nobody else", x.roll(3, 0, -1), 3);
        C.due("UNREST", x.city(7), 0);
        C.due("nobody RULES", x.city(9), -1);
        C.due("suits wait on", x.jury(6), 1);
        C.noState("the people rule", x, () -> x.rise(10, false));
        C.noArgument("ahead of that: LEAN 16", x, () -> x.rise(16, false));
        C.due("no amnesty", x.sue(0, 6, 1, 10, 5), 1);
        C.due("seats", x.seat(), 3);
    }

    private static void withOath() {
        Kleroterion x = oligarchs(false);
        x.seat();
        x.move(6, 0, 1, 4, 0);
        x.move(6, 1, 2, 3, 0);
        x.move(6, 1, 3, 4, 0);
        Checks.loseSevenTimes(x, 5);
        C.due("all PASS", x.city(12), 1);
        x.pass(3);
        C.due("overthrown", x.city(8), 0);
        x.sue(0, 6, 0, 10, 5);
        x.sue(0, 6, 1, 10, 5);
        x.challenge(0, 0, 10);
        x.pass(1);
        C.due("the people rule again", x.rise(10, true), true);
        C.due("who RULED stays", x.ofCitizen(3, 6), 1);
        C.due("two are dropped", x.jury(5), 2);
        C.due("the private one waits", x.ofSuit(0, 2), 0);
        C.due("a LAW that differs by 7 is gone", x.law(2), -1);
        C.due("by 6 not", x.law(3), 4);
        C.noState("an amnesty is on", x, () -> x.sue(0, 6, 1, 10, 5));
        C.due("not for private ones", x.sue(0, 6, 0, 10, 5), 1);
        x.pass(40);
        C.noState("up to 40 DAYS later", x, () -> x.sue(0, 6, 1, 10, 5));
        x.pass(1);
        C.due("no more", x.sue(0, 6, 1, 10, 5), 2);
    }

    /** DECREES of the DAY of the OATH (10) and ahead of it are not challenged. */
    private static void oath() {
        int same = 0;
        int later = 0;
        for (int lost = 0; lost < 8; lost++) {
            Kleroterion x = oligarchs(false);
            x.seat();
            x.move(6, 0, 1, 4, 0);
            Checks.loseSevenTimes(x, 5);
            x.pass(3);
            // each is a DRAW more, so that another TRIBE has the PRYTANY
            for (int k = 0; k < lost; k++) {
                x.enroll(7, 20, 0, 15);
                x.rise(15, true);
            }
            C.due("the people rule again", x.rise(5, true), true);
            C.noState("of a DAY ahead of it", x, () -> x.challenge(0, 0, 10));
            x.seat();
            for (int k = 0; k < 39 && x.council(2) == -1; k++) x.pass(1);
            if (x.council(2) == -1) continue;
            x.move(6, 0, 1, 4, 0);
            C.due("PASSES", x.assembly(), 1);
            if (x.city(0) == 10) {
                same++;
                C.noState("of that DAY", x, () -> x.challenge(0, 1, 10));
            } else {
                later++;
                C.due("of a later DAY", x.challenge(0, 1, 10), 0);
            }
        }
        C.due("both were there", same > 0 && later > 0, true);
    }

    /** An UNREST of 24 by ALLIES that fall off, with no CITIZENS. */
    private static void nobodyRules() {
        Kleroterion x = new Kleroterion();
        for (int year = 1; year <= 3; year++) {
            for (int k = 0; k < 4; k++) x.ally(1, 99);
            x.pass(40);
            C.due("UNREST", x.city(7), 8 * year);
            C.due("the people rule", x.city(8), 1);
        }
        x.pass(10);
        C.due("they do not", x.city(8), 0);
        C.due("nor does anybody", x.city(9), -1);
        x.enroll(0, 20, 200, 5);
        x.pass(10);
        C.due("nobody pays", x.ofCitizen(0, 4), 200);
        C.due("nobody RULES by now", x.city(9), -1);
        C.due("one of one", x.rise(0, false), true);
        C.due("nobody is EXILED", x.roll(3, 0, -1), 0);
    }

    /** An account with a DUE of DAY 50, on that DAY. */
    private static void account(boolean isOath) {
        Kleroterion x = oligarchs(false);
        for (int k = 0; k < 3; k++) x.enroll(4, 40, 50, 5);
        x.stand(0, 3);
        x.fill(3);
        x.seat();
        x.move(1, 5, 0, 5, 300);
        x.assembly();
        x.pass(40);
        C.due("out of OFFICE", x.ofOffice(3, 0), -1);
        for (int k = 0; k < 7; k++) {
            x.levy(8);
            x.pass(1);
        }
        x.pass(3);
        C.due("the people rule again", x.rise(5, isOath), true);
        if (isOath) C.noState("owed no more", x, () -> x.sue(1, 0, 3, 10, 5));
        else C.due("owed", x.sue(1, 0, 3, 10, 5), 0);
    }

    private static void pass() {
        Kleroterion x = Checks.three();
        C.noArgument("0", x, () -> x.pass(0));
        C.noArgument("41", x, () -> x.pass(41));
        C.noArgument("below 0", x, () -> x.pass(-1));
        for (int k = 1; k <= 9; k++) C.due("pass", x.pass(40), 40 * k);
        C.due("YEAR", x.city(1), 9);
        C.due("pass", x.pass(39), 399);
        C.due("PRYTANY", x.city(2), 3);
        C.noState("401", x, () -> x.pass(2));
        C.due("400", x.pass(1), 400);
        C.due("YEAR", x.city(1), 10);
        C.due("PRYTANY", x.city(2), 0);
        C.noState("the last DAY", x, () -> x.pass(1));
        C.noArgument("the last DAY, wrongly", x, () -> x.pass(41));
        C.noArgument("city -1", x, () -> x.city(-1));
        C.noArgument("city 15", x, () -> x.city(15));
    }

    public static void main(String[] args) {
        sherds();
        levy();
        lost();
        won();
        overthrow();
        failing();
        withoutOath();
        withOath();
        oath();
        nobodyRules();
        account(true);
        account(false);
        pass();
        C.end();
    }
}
