import java.util.List;

/** Promises 37 to 41: roll, isSound, bell, tell, digest; and that what is asked changes nothing. */
public final class QuestionsTest {
    private static final Checks C = new Checks();

    private static void roll() {
        Kleroterion x = Checks.three();
        x.enroll(0, 50, 0, 15);
        x.enroll(5, 50, 0, 15);
        C.due("FULL", x.roll(1, 0, -1), 4);
        C.due("at least 40", x.roll(1, 40, -1), 4);
        C.due("at least 41", x.roll(1, 41, -1), 1);
        C.due("of TRIBE 1", x.roll(1, 0, 1), 1);
        C.due("who WAIT", x.roll(0, 50, 0), 1);
        C.due("of 99", x.roll(0, 99, 0), 0);
        C.noIndex("TRIBE 4, ahead of a wrong STATUS", x, () -> x.roll(6, 0, 4));
        C.noIndex("TRIBE -2", x, () -> x.roll(0, 0, -2));
        C.noArgument("STATUS -1", x, () -> x.roll(-1, 0, 0));
        C.noArgument("STATUS 6", x, () -> x.roll(6, 0, 0));
        C.noArgument("AGE -1", x, () -> x.roll(0, -1, 0));
        C.noArgument("AGE 100", x, () -> x.roll(0, 100, 0));
    }

    private static void bell() {
        Kleroterion x = new Kleroterion();
        long before = x.digest();
        for (int k = 1; k <= 5; k++) C.due("bell", x.bell(), k);
        C.due("it holds nothing", x.digest(), before);
        C.due("of another object", new Kleroterion().bell(), 1);
    }

    private static void tell() {
        Kleroterion x = Checks.three();
        x.enroll(1, 70, 10, 5);
        x.enroll(2, 40, 150, 5);
        x.enroll(3, 40, 0, 5);
        x.enroll(0, 40, 0, 15);
        x.enroll(0, 40, 0, 15);
        x.stand(4, 1);
        x.stand(5, 0);
        x.fill(1);
        x.fill(0);
        x.appeal(6);
        x.seat();
        int other = x.council(2) == 0 ? 1 : 0;
        C.due("tell", x.tell(other), other + " of 0: full council");
        C.due("tell", x.tell(3), "3 of 1: full");
        C.due("tell", x.tell(4), "4 of 2: full office 1");
        C.due("tell", x.tell(6), "6 of 0: struck");
        C.due("tell", x.tell(7), "7 of 0: waits");
        x.sue(3, 4, 1, 200, 5);
        x.sue(3, 5, 1, 200, 5);
        x.sue(3, 4, 1, 10, 15);
        C.due("tried", x.court(), 3);
        C.due("tell", x.tell(4), "4 of 2: out office 1");
        C.due("tell", x.tell(5), "5 of 3: out office 0");
        x.pass(40);
        x.pass(40);
        x.pass(40);
        x.pass(40);
        x.pass(40);
        C.due("tell", x.tell(3), "3 of 1: dead");
        Kleroterion y = new Kleroterion();
        y.found(8, 0);
        y.pass(20);
        y.sherds();
        C.due("tell", y.tell(0), "0 of 0: exiled");
        C.noIndex("nobody", y, () -> y.tell(8));
        C.noIndex("below 0", y, () -> y.tell(-1));
    }

    /** The CHAIR is told with that word alone. */
    private static void chair() {
        Kleroterion x = Checks.three();
        x.seat();
        C.due("tell", x.tell(0), "0 of 0: full chair");
        C.due("tell", x.tell(1), "1 of 0: full council");
    }

    private static void digest() {
        Kleroterion x = Checks.three();
        for (int k = 0; k < 4; k++) x.enroll(k + 1, 20, 90, 5);
        C.due("another object in the same state", busy(new Kleroterion()).digest(), busy(new Kleroterion()).digest());
        for (Kleroterion y : List.of(new Kleroterion(), x, busy(new Kleroterion()), Checks.overthrown())) {
            long d = 58261;
            for (long v : Checks.numbers(y)) d = d * 31 + v;
            C.due("digest", y.digest(), d);
            C.due("digest once more", y.digest(), d);
            C.due("sound", y.isSound(), true);
        }
    }

    /** With DECREES, suits and MOTIONS. */
    private static Kleroterion busy(Kleroterion x) {
        x.found(24, 0);
        x.seat();
        for (int k = 0; k < 4; k++) x.move(k, 0, k, 7, 0);
        x.assembly();
        x.challenge(9, 0, 50);
        x.sue(3, 4, 0, 10, 5);
        x.move(5, 2, 0, 6, 30);
        x.move(5, 4, 0, 6, 30);
        return x;
    }

    public static void main(String[] args) {
        roll();
        bell();
        tell();
        chair();
        digest();
        C.end();
    }
}
