import java.util.ArrayList;
import java.util.List;

/** Counts answers that are not the ones that are due, and tells them. */
final class Checks {
    private int wrong = 0;
    private int made = 0;

    /** LUCK by the document's rule, to tell ahead what will be DRAWN. */
    static final class Luck {
        private int luck;

        Luck(Kleroterion of) {
            luck = of.city(3);
        }

        int draw(int many) {
            luck = (13 * luck + 5) % 64;
            return luck * many / 64;
        }
    }

    void due(String call, Object got, Object want) {
        made++;
        if (!want.equals(got)) {
            wrong++;
            System.out.println(call + " answered " + got + ", due is " + want);
        }
    }

    /** The call throws just that exception, and nothing that can be asked is another one by it. */
    void refused(String call, Kleroterion of, Class<? extends RuntimeException> due, Runnable made) {
        long before = of.digest();
        Class<?> thrown = null;
        String thrower = "Kleroterion";
        try {
            made.run();
        } catch (RuntimeException e) {
            thrown = e.getClass();
            thrower = e.getStackTrace()[0].getClassName();
        }
        due(call + " throws", String.valueOf(thrown), String.valueOf(due));
        due(call + " throws by itself, no list does", thrower, "Kleroterion");
        due(call + " leaves the digest", of.digest(), before);
    }

    void noIndex(String call, Kleroterion of, Runnable made) {
        refused(call, of, IndexOutOfBoundsException.class, made);
    }

    void noArgument(String call, Kleroterion of, Runnable made) {
        refused(call, of, IllegalArgumentException.class, made);
    }

    void noState(String call, Kleroterion of, Runnable made) {
        refused(call, of, IllegalStateException.class, made);
    }

    /** What digest() is computed of, in that order. */
    static List<Long> numbers(Kleroterion x) {
        List<Long> all = new ArrayList<>();
        for (int k = 0; k <= 14; k++) all.add((long) x.city(k));
        for (int k = 0; k <= 4; k++) all.add((long) x.council(k));
        for (int k = 0; k <= 8; k++) all.add((long) x.money(k));
        for (int k = 0; k <= 6; k++) all.add((long) x.jury(k));
        for (int k = 0; k <= 7; k++) all.add((long) x.law(k));
        for (int o = 0; o < 7; o++) for (int k = 0; k <= 3; k++) all.add((long) x.ofOffice(o, k));
        for (int t = 0; t < 4; t++) for (int k = 0; k <= 4; k++) all.add((long) x.ofTribe(t, k));
        for (int d = 0; d < x.city(12); d++) for (int k = 0; k <= 4; k++) all.add((long) x.ofDecree(d, k));
        for (int s = 0; s < x.jury(6); s++) for (int k = 0; k <= 6; k++) all.add((long) x.ofSuit(s, k));
        for (int m = 0; m < x.city(11); m++) all.add((long) x.would(m));
        for (int c = 0; c < x.city(5); c++) for (int k = 0; k <= 12; k++) all.add((long) x.ofCitizen(c, k));
        all.add(x.isSound() ? 1L : 0L);
        return all;
    }

    void end() {
        System.out.println(wrong == 0 ? made + " checks are as due" : wrong + " of " + made + " checks are not as due");
        if (wrong != 0) {
            System.exit(1);
        }
    }

    /** Three of DEME 0 (TRIBE 0): each JURY, board and COUNCIL of a city with few others is these three. */
    static Kleroterion three() {
        Kleroterion x = new Kleroterion();
        for (int k = 0; k < 3; k++) {
            x.enroll(0, 40, 100, 5);
        }
        return x;
    }

    /** Seatings of nobody (three DRAWS each), till LUCK is that; without a COUNCIL and anybody for it. */
    static void tillLuck(Kleroterion x, int luck) {
        for (int k = 0; k < 64 && x.city(3) != luck; k++) x.seat();
    }

    /** Likewise, till the next one of many that is DRAWN is the wanted one. */
    static void tillDrawn(Kleroterion x, int many, int wanted) {
        for (int k = 0; k < 64 && new Luck(x).draw(many) != wanted; k++) x.seat();
    }

    /** Lets DAYS go by till there is a CHAIR, 80 at most. */
    static void tillChair(Kleroterion x) {
        for (int k = 0; k < 80 && x.council(2) == -1; k++) x.pass(1);
    }

    /** What is asked of one CITIZEN. */
    void citizen(String when, Kleroterion x, int citizen, int what, int due) {
        due(when + ": " + what + " of " + citizen, x.ofCitizen(citizen, what), due);
    }

    /** UNREST of 21 by seven lost fights, of nobody, on the DAYS from now on; there has to be a CHAIR. */
    static void loseSevenTimes(Kleroterion x, int lean) {
        x.move(0, 5, 0, lean, 300);
        x.assembly();
        for (int k = 0; k < 7; k++) {
            x.levy(8);
            x.pass(1);
        }
    }

    /** As three(), but the people do not rule any more; the DAY is 10. */
    static Kleroterion overthrown() {
        Kleroterion x = three();
        overthrow(x, 5);
        return x;
    }

    /** On DAY 0, without a COUNCIL. */
    static void overthrow(Kleroterion x, int lean) {
        x.seat();
        loseSevenTimes(x, lean);
        x.pass(3);
    }
}
