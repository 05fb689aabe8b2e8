import java.util.ArrayList;
import java.util.Arrays;

/**
 * A city that is ruled by lot. The public methods look at their arguments and refuse what the
 * document refuses, before anything is changed; the classes inside do what is left.
 */
public final class Kleroterion {
    private static final int NONE = -1;
    private static final int NOT_LET = -2;

    private static final int MOST_CITIZENS = 40;
    private static final int DEMES = 8;
    private static final int TRIBES = 4;
    private static final int HIGHEST_LEAN = 15;
    private static final int TOPICS = 8;

    private static final int LAST_DAY = 400;
    private static final int YEAR_DAYS = 40;
    private static final int PRYTANY_DAYS = 10;

    private static final int MOST_MOTIONS = 8;
    private static final int MOST_SUITS = 8;
    private static final int MOST_AMOUNT_MOVED = 300;
    private static final int MOST_AMOUNT_SUED = 200;
    private static final int LONGEST_CHALLENGE = 40;
    private static final int WIDEST_AMENDMENT = 3;

    private final City city = new City();
    private final Council council = new Council(city);
    private final Courts courts = new Courts(city);
    private final Assembly assembly = new Assembly(city, courts);
    private final Estate estate = new Estate(city);
    private final Power power = new Power(city, assembly, courts);
    private int refused = 0;

    public Kleroterion() {
    }

    // ---- 1. citizens

    public int enroll(int deme, int age, int wealth, int view)
            throws IllegalArgumentException, IllegalStateException {
        if (!isFrom(deme, 0, DEMES - 1) || !isFrom(age, 18, 70)) {
            throw new IllegalArgumentException();
        }
        if (!isFrom(wealth, 0, 300) || !isLean(view)) {
            throw new IllegalArgumentException();
        }
        if (city.citizens.size() >= MOST_CITIZENS) {
            throw new IllegalStateException();
        }
        int status = city.isWelcome(deme, view) ? Citizen.FULL : Citizen.WAITS;
        return city.inscribe(deme, age, wealth, view, status);
    }

    public int found(int many, int seed) throws IllegalArgumentException, IllegalStateException {
        if (!isFrom(many, 1, MOST_CITIZENS) || !isFrom(seed, 0, 99)) {
            throw new IllegalArgumentException();
        }
        if (city.citizens.size() + many > MOST_CITIZENS) {
            throw new IllegalStateException();
        }
        for (int k = 0; k < many; k++) {
            int age = 20 + (7 * k + seed) % 45;
            int wealth = (31 * k + 11 * seed) % 150;
            int view = (5 * k + seed) % 16;
            city.inscribe(k % DEMES, age, wealth, view, Citizen.FULL);
        }
        return city.citizens.size();
    }

    public int purge(int deme) throws IndexOutOfBoundsException {
        if (!isFrom(deme, 0, DEMES - 1)) {
            throw new IndexOutOfBoundsException();
        }
        return city.purgeDeme(deme);
    }

    public boolean appeal(int citizen) throws IndexOutOfBoundsException, IllegalStateException {
        Citizen one = city.numbered(citizen);
        if (one == null) {
            throw new IndexOutOfBoundsException();
        }
        if (one.status != Citizen.WAITS || !city.isFree) {
            throw new IllegalStateException();
        }
        return courts.hearAppeal(one);
    }

    public int pay(int citizen) throws IndexOutOfBoundsException, IllegalStateException {
        Citizen one = city.numbered(citizen);
        if (one == null) {
            throw new IndexOutOfBoundsException();
        }
        if (one.status == Citizen.DEAD || one.status == Citizen.STRUCK) {
            throw new IllegalStateException();
        }
        return city.payDebt(one);
    }

    public int ofCitizen(int citizen, int what)
            throws IndexOutOfBoundsException, IllegalArgumentException {
        Citizen one = city.numbered(citizen);
        if (one == null) {
            throw new IndexOutOfBoundsException();
        }
        switch (what) {
            case 0: return one.deme;
            case 1: return one.tribe();
            case 2: return one.age;
            case 3: return one.view;
            case 4: return one.wealth;
            case 5: return one.wealthClass();
            case 6: return one.status;
            case 7: return one.debt;
            case 8: return one.barredTo;
            case 9: return one.timesSeated;
            case 10: return city.officeOf(one);
            case 11: return asNumber(one.isInCouncil);
            case 12: return one.burden;
            default: throw new IllegalArgumentException();
        }
    }

    // ---- 2. council and chairman

    public int seat() throws IllegalStateException {
        if (council.size() > 0 || !city.isFree) {
            throw new IllegalStateException();
        }
        council.drawMembers();
        council.drawChair();
        return council.size();
    }

    public int council(int what) throws IllegalArgumentException {
        switch (what) {
            case 0: return council.size();
            case 1: return council.prytanes();
            case 2: return numberOf(city.chair);
            case 3: return council.prytanyTribe();
            case 4: return council.tribes();
            default: throw new IllegalArgumentException();
        }
    }

    // ---- 3. assemblies, decrees and laws

    public int move(int citizen, int kind, int topic, int lean, int amount)
            throws IndexOutOfBoundsException, IllegalArgumentException, IllegalStateException {
        Citizen mover = city.numbered(citizen);
        if (mover == null) {
            throw new IndexOutOfBoundsException();
        }
        if (!isFrom(kind, Motion.DECREE, Motion.WAR) || !isFrom(topic, 0, TOPICS - 1)) {
            throw new IllegalArgumentException();
        }
        if (!isLean(lean) || !isFrom(amount, 0, MOST_AMOUNT_MOVED)) {
            throw new IllegalArgumentException();
        }
        if (!city.mayAct(mover) || assembly.agenda.size() >= MOST_MOTIONS || !city.isFree) {
            throw new IllegalStateException();
        }
        if (2 * city.councilAgreeing(lean) < council.size()) {
            return NOT_LET;
        }
        assembly.agenda.add(new Motion(mover, kind, topic, lean, amount));
        return assembly.agenda.size() - 1;
    }

    public int amend(int motion, int lean)
            throws IndexOutOfBoundsException, IllegalArgumentException {
        if (!isFrom(motion, 0, assembly.agenda.size() - 1)) {
            throw new IndexOutOfBoundsException();
        }
        Motion amended = assembly.agenda.get(motion);
        if (!isLean(lean) || gap(amended.lean, lean) > WIDEST_AMENDMENT) {
            throw new IllegalArgumentException();
        }
        int before = amended.lean;
        amended.lean = lean;
        return before;
    }

    public int assembly() throws IllegalStateException {
        if (city.chair == null || assembly.lastDay == city.day || !city.isFree) {
            throw new IllegalStateException();
        }
        return assembly.vote();
    }

    public int ofDecree(int decree, int what)
            throws IndexOutOfBoundsException, IllegalArgumentException {
        if (!isFrom(decree, 0, assembly.decrees.size() - 1)) {
            throw new IndexOutOfBoundsException();
        }
        Motion one = assembly.decrees.get(decree);
        switch (what) {
            case 0: return one.mover.number;
            case 1: return one.topic;
            case 2: return one.lean;
            case 3: return one.day;
            case 4: return asNumber(assembly.isHolding(decree));
            default: throw new IllegalArgumentException();
        }
    }

    public int law(int topic) throws IndexOutOfBoundsException {
        if (!isFrom(topic, 0, TOPICS - 1)) {
            throw new IndexOutOfBoundsException();
        }
        return assembly.lawOn(topic);
    }

    public int would(int motion) throws IndexOutOfBoundsException {
        if (!isFrom(motion, 0, assembly.agenda.size() - 1)) {
            throw new IndexOutOfBoundsException();
        }
        return assembly.foretell(assembly.agenda.get(motion));
    }

    // ---- 4. offices

    public int stand(int citizen, int office)
            throws IndexOutOfBoundsException, IllegalStateException {
        Citizen one = city.numbered(citizen);
        if (one == null || !isFrom(office, 0, city.offices.size() - 1)) {
            throw new IndexOutOfBoundsException();
        }
        Office wanted = city.offices.get(office);
        if (!wanted.isFit(one, city) || wanted.isStanding(one)) {
            throw new IllegalStateException();
        }
        if (wanted.standing.size() >= Office.MOST_STANDING || wanted.holder != null) {
            throw new IllegalStateException();
        }
        wanted.standing.add(one);
        return wanted.standing.size();
    }

    public int fill(int office) throws IndexOutOfBoundsException, IllegalStateException {
        if (!isFrom(office, 0, city.offices.size() - 1)) {
            throw new IndexOutOfBoundsException();
        }
        Office empty = city.offices.get(office);
        if (empty.holder != null || !city.isFree) {
            throw new IllegalStateException();
        }
        empty.choose(city);
        return numberOf(empty.holder);
    }

    public int ofOffice(int office, int what)
            throws IndexOutOfBoundsException, IllegalArgumentException {
        if (!isFrom(office, 0, city.offices.size() - 1)) {
            throw new IndexOutOfBoundsException();
        }
        Office one = city.offices.get(office);
        switch (what) {
            case 0: return numberOf(one.holder);
            case 1: return one.standing.size();
            case 2: return one.holder == null ? NONE : one.since;
            case 3: return one.handled(city);
            default: throw new IllegalArgumentException();
        }
    }

    // ---- 5, 6, 7. juries, arbitrators, suits

    public int sue(int accuser, int accused, int kind, int amount, int proof)
            throws IndexOutOfBoundsException, IllegalArgumentException, IllegalStateException {
        Citizen one = city.numbered(accuser);
        Citizen other = city.numbered(accused);
        if (one == null || other == null) {
            throw new IndexOutOfBoundsException();
        }
        boolean isKind = kind == Suit.PRIVATE || kind == Suit.PUBLIC || kind == Suit.ACCOUNT;
        if (one == other || !isKind || !isFrom(amount, 1, MOST_AMOUNT_SUED) || !isLean(proof)) {
            throw new IllegalArgumentException();
        }
        if (!city.mayAct(one) || other.isGone() || courts.suits.size() >= MOST_SUITS) {
            throw new IllegalStateException();
        }
        if (kind == Suit.ACCOUNT && other.accountDue < city.day) {
            throw new IllegalStateException();
        }
        if (kind == Suit.PUBLIC && power.isAmnesty()) {
            throw new IllegalStateException();
        }
        return courts.bring(new Suit(one, other, kind, amount, proof, null));
    }

    public int challenge(int accuser, int decree, int amount)
            throws IndexOutOfBoundsException, IllegalArgumentException, IllegalStateException {
        Citizen one = city.numbered(accuser);
        if (one == null || !isFrom(decree, 0, assembly.decrees.size() - 1)) {
            throw new IndexOutOfBoundsException();
        }
        Motion against = assembly.decrees.get(decree);
        if (one == against.mover || !isFrom(amount, 1, MOST_AMOUNT_SUED)) {
            throw new IllegalArgumentException();
        }
        if (!city.mayAct(one) || city.day - against.day > LONGEST_CHALLENGE || against.isSued) {
            throw new IllegalStateException();
        }
        if (against.mover.isGone() || courts.suits.size() >= MOST_SUITS) {
            throw new IllegalStateException();
        }
        if (against.day <= power.oathDay) {
            throw new IllegalStateException();
        }
        against.isSued = true;
        int proof = assembly.proofAgainst(against);
        return courts.bring(new Suit(one, against.mover, Suit.DECREE, amount, proof, against));
    }

    public int arbitrate(int suit) throws IndexOutOfBoundsException, IllegalStateException {
        if (!isFrom(suit, 0, courts.suits.size() - 1)) {
            throw new IndexOutOfBoundsException();
        }
        if (!courts.suits.get(suit).canBeArbitrated()) {
            throw new IllegalStateException();
        }
        return courts.findByArbitrator(suit);
    }

    public int court() throws IllegalStateException {
        if (courts.lastDay == city.day || !city.isFree) {
            throw new IllegalStateException();
        }
        return courts.sit();
    }

    public int ofSuit(int suit, int what)
            throws IndexOutOfBoundsException, IllegalArgumentException {
        if (!isFrom(suit, 0, courts.suits.size() - 1)) {
            throw new IndexOutOfBoundsException();
        }
        Suit one = courts.suits.get(suit);
        switch (what) {
            case 0: return one.accuser.number;
            case 1: return one.accused.number;
            case 2: return one.kind;
            case 3: return one.amount;
            case 4: return one.proof;
            case 5: return one.water();
            case 6: return asNumber(one.isArbitrated);
            default: throw new IllegalArgumentException();
        }
    }

    public int jury(int what) throws IllegalArgumentException {
        switch (what) {
            case 0: return courts.jury.size();
            case 1: return courts.votesFor;
            case 2: return tribesOf(courts.jury);
            case 3: return courts.won;
            case 4: return courts.lost;
            case 5: return courts.dropped;
            case 6: return courts.suits.size();
            default: throw new IllegalArgumentException();
        }
    }

    // ---- 8. money

    public int lease(int citizen, int lease, int rent)
            throws IndexOutOfBoundsException, IllegalArgumentException, IllegalStateException {
        Citizen one = city.numbered(citizen);
        if (one == null || !isFrom(lease, 0, City.LEASES - 1)) {
            throw new IndexOutOfBoundsException();
        }
        if (!isFrom(rent, 1, 100) || rent <= valueAt(city.rents, lease)) {
            throw new IllegalArgumentException();
        }
        if (!one.isFull()) {
            throw new IllegalStateException();
        }
        return numberOf(city.letLease(lease, one, rent));
    }

    public int ally(int tribute, int might) throws IllegalArgumentException, IllegalStateException {
        if (!isFrom(tribute, 1, 60) || !isFrom(might, 1, 99)) {
            throw new IllegalArgumentException();
        }
        if (estate.allies >= Estate.MOST_ALLIES) {
            throw new IllegalStateException();
        }
        return estate.addAlly(tribute, might);
    }

    public int money(int what) throws IllegalArgumentException {
        switch (what) {
            case 0: return city.treasury;
            case 1: return city.chest;
            case 2: return city.purse;
            case 3: return sumOf(city.rents);
            case 4: return estate.allTribute();
            case 5: return estate.allies;
            case 6: return city.allDebts();
            case 7: return city.takenIn;
            case 8: return city.paidOut;
            default: throw new IllegalArgumentException();
        }
    }

    // ---- 9, 10. burdens, the festival

    public int claim(int citizen, int other)
            throws IndexOutOfBoundsException, IllegalArgumentException, IllegalStateException {
        Citizen one = city.numbered(citizen);
        Citizen richer = city.numbered(other);
        if (one == null || richer == null) {
            throw new IndexOutOfBoundsException();
        }
        if (one == richer) {
            throw new IllegalArgumentException();
        }
        if (!one.mayClaim() || !richer.mayBeClaimed(one)) {
            throw new IllegalStateException();
        }
        return estate.compare(one, richer);
    }

    public int bear(int citizen) throws IndexOutOfBoundsException, IllegalStateException {
        Citizen one = city.numbered(citizen);
        if (one == null) {
            throw new IndexOutOfBoundsException();
        }
        if (!one.hasToBear()) {
            throw new IllegalStateException();
        }
        return estate.discharge(one);
    }

    public int festival() throws IllegalStateException {
        if (estate.festivalYear == city.year() || estate.choruses() < 2 || city.full() == 0) {
            throw new IllegalStateException();
        }
        return estate.judgeFestival();
    }

    public int ofTribe(int tribe, int what)
            throws IndexOutOfBoundsException, IllegalArgumentException {
        if (!isFrom(tribe, 0, TRIBES - 1)) {
            throw new IndexOutOfBoundsException();
        }
        switch (what) {
            case 0: return city.countOf(Citizen.FULL, 0, tribe);
            case 1: return estate.toBearIn(tribe);
            case 2: return valueAt(estate.splendours, tribe);
            case 3: return valueAt(estate.festivalsWon, tribe);
            case 4: return valueAt(power.warDead, tribe);
            default: throw new IllegalArgumentException();
        }
    }

    // ---- 11 to 14. sherds, war, the people's rule

    public int sherds() throws IllegalStateException {
        if (assembly.sherdsYear == city.year() || city.prytany() < 2 || !city.isFree) {
            throw new IllegalStateException();
        }
        return numberOf(assembly.writeSherds());
    }

    public int levy(int tribes) throws IllegalArgumentException, IllegalStateException {
        if (!isFrom(tribes, 1, (1 << TRIBES) - 1)) {
            throw new IllegalArgumentException();
        }
        if (city.war == NONE || power.levyDay == city.day) {
            throw new IllegalStateException();
        }
        return power.fight(tribes);
    }

    public boolean rise(int lean, boolean isOath)
            throws IllegalArgumentException, IllegalStateException {
        if (!isLean(lean)) {
            throw new IllegalArgumentException();
        }
        if (city.isFree) {
            throw new IllegalStateException();
        }
        return power.revolt(lean, isOath);
    }

    public int pass(int days) throws IllegalArgumentException, IllegalStateException {
        if (!isFrom(days, 1, YEAR_DAYS)) {
            throw new IllegalArgumentException();
        }
        if (city.day + days > LAST_DAY) {
            throw new IllegalStateException();
        }
        for (int k = 0; k < days; k++) {
            city.day++;
            beginDay();
        }
        return city.day;
    }

    public int city(int what) throws IllegalArgumentException {
        switch (what) {
            case 0: return city.day;
            case 1: return city.year();
            case 2: return city.prytany();
            case 3: return city.lots.luck;
            case 4: return city.lots.draws;
            case 5: return city.citizens.size();
            case 6: return city.full();
            case 7: return city.unrest;
            case 8: return asNumber(city.isFree);
            case 9: return numberOf(power.firstRuler());
            case 10: return city.war;
            case 11: return assembly.agenda.size();
            case 12: return assembly.decrees.size();
            case 13: return city.ships;
            case 14: return assembly.countPresent();
            default: throw new IllegalArgumentException();
        }
    }

    public int roll(int status, int least, int tribe)
            throws IndexOutOfBoundsException, IllegalArgumentException {
        if (!isFrom(tribe, NONE, TRIBES - 1)) {
            throw new IndexOutOfBoundsException();
        }
        if (!isFrom(status, Citizen.WAITS, Citizen.STRUCK) || !isFrom(least, 0, 99)) {
            throw new IllegalArgumentException();
        }
        return city.countOf(status, least, tribe);
    }

    public boolean isSound() {
        return city.areCitizensSound() && council.isChairSound() && city.areOfficesSound()
                && assembly.areDecreesSound() && city.isTreasurySound();
    }

    public int bell() {
        refused++;
        return refused;
    }

    public String tell(int citizen) throws IndexOutOfBoundsException {
        Citizen one = city.numbered(citizen);
        if (one == null) {
            throw new IndexOutOfBoundsException();
        }
        StringBuilder line = new StringBuilder();
        line.append(one.number).append(" of ").append(one.deme).append(": ").append(one.word());
        if (city.chair == one) {
            line.append(" chair");
        } else if (one.isInCouncil) {
            line.append(" council");
        }
        int office = city.officeOf(one);
        if (office != NONE) {
            line.append(" office ").append(office);
        }
        return line.toString();
    }

    public long digest() {
        long d = 58261L;
        for (int what = 0; what <= 14; what++) {
            d = d * 31 + city(what);
        }
        for (int what = 0; what <= 4; what++) {
            d = d * 31 + council(what);
        }
        for (int what = 0; what <= 8; what++) {
            d = d * 31 + money(what);
        }
        for (int what = 0; what <= 6; what++) {
            d = d * 31 + jury(what);
        }
        for (int topic = 0; topic < TOPICS; topic++) {
            d = d * 31 + law(topic);
        }
        d = digestOfLists(digestOfOffices(d));
        return d * 31 + asNumber(isSound());
    }

    private long digestOfOffices(long before) {
        long d = before;
        for (int office = 0; office < city.offices.size(); office++) {
            for (int what = 0; what <= 3; what++) {
                d = d * 31 + ofOffice(office, what);
            }
        }
        for (int tribe = 0; tribe < TRIBES; tribe++) {
            for (int what = 0; what <= 4; what++) {
                d = d * 31 + ofTribe(tribe, what);
            }
        }
        return d;
    }

    private long digestOfLists(long before) {
        long d = before;
        for (int decree = 0; decree < assembly.decrees.size(); decree++) {
            for (int what = 0; what <= 4; what++) {
                d = d * 31 + ofDecree(decree, what);
            }
        }
        for (int suit = 0; suit < courts.suits.size(); suit++) {
            for (int what = 0; what <= 6; what++) {
                d = d * 31 + ofSuit(suit, what);
            }
        }
        for (int motion = 0; motion < assembly.agenda.size(); motion++) {
            d = d * 31 + would(motion);
        }
        for (int citizen = 0; citizen < city.citizens.size(); citizen++) {
            for (int what = 0; what <= 12; what++) {
                d = d * 31 + ofCitizen(citizen, what);
            }
        }
        return d;
    }

    // ---- the course of days

    private void beginDay() {
        boolean isPrytany = city.day % PRYTANY_DAYS == 0;
        boolean isYear = city.day % YEAR_DAYS == 0;
        if (isPrytany) {
            power.beginPrytany();
        }
        if (isYear) {
            endYear();
            beginYear();
        }
        if (isPrytany && !isYear && city.isFree) {
            city.askConfidence();
        }
        if (isPrytany) {
            city.payOffices();
        }
        council.drawChair();
    }

    private void endYear() {
        estate.fineIdle();
        city.collectRents();
        city.dismissAll();
        estate.settleAllies();
    }

    private void beginYear() {
        city.growOlder();
        estate.tellBurdens();
        if (city.isFree) {
            council.drawMembers();
        }
    }

    // ---- small helpers

    private static boolean isFrom(int value, int least, int most) {
        return value >= least && value <= most;
    }

    private static boolean isLean(int value) {
        return isFrom(value, 0, HIGHEST_LEAN);
    }

    private static int gap(int one, int other) {
        return Math.abs(one - other);
    }

    private static int asNumber(boolean isSo) {
        return isSo ? 1 : 0;
    }

    private static int numberOf(Citizen one) {
        return one == null ? NONE : one.number;
    }

    private static int valueAt(int[] row, int index) {
        return index >= 0 && index < row.length ? row[index] : NONE;
    }

    private static void putAt(int[] row, int index, int value) {
        if (index >= 0 && index < row.length) {
            row[index] = value;
        }
    }

    private static void addAt(int[] row, int index, int more) {
        if (index >= 0 && index < row.length) {
            row[index] += more;
        }
    }

    private static int sumOf(int[] row) {
        int sum = 0;
        for (int k = 0; k < row.length; k++) {
            sum += row[k];
        }
        return sum;
    }

    /** The place of the greatest one, of several the first. */
    private static int placeOfMost(int[] row) {
        int best = 0;
        for (int k = 1; k < row.length; k++) {
            if (row[k] > row[best]) {
                best = k;
            }
        }
        return best;
    }

    private static int tribesOf(ArrayList<Citizen> those) {
        int set = 0;
        for (int k = 0; k < those.size(); k++) {
            set |= 1 << those.get(k).tribe();
        }
        return set;
    }

    private static int agreeing(ArrayList<Citizen> those, int lean) {
        int count = 0;
        for (int k = 0; k < those.size(); k++) {
            if (those.get(k).agrees(lean)) {
                count++;
            }
        }
        return count;
    }

    // ---- the parts of the city

    private static final class Citizen {
        static final int WAITS = 0;
        static final int FULL = 1;
        static final int OUT = 2;
        static final int EXILED = 3;
        static final int DEAD = 4;
        static final int STRUCK = 5;

        static final int NO_BURDEN = 0;
        static final int SHIP = 1;
        static final int CHORUS = 2;

        private static final int WIDEST_AGREEMENT = 5;
        private static final int HIGHEST_CLASS = 3;

        final int number;
        final int deme;
        final int view;
        int age;
        int wealth;
        int debt = 0;
        int status;
        int barredTo = 0;
        int timesSeated = 0;
        boolean isInCouncil = false;
        int chairPrytany = NONE;
        int accountDue = NONE;
        int burden = NO_BURDEN;
        boolean isBurdenDone = false;
        boolean hadBurden = false;
        boolean hasClaimed = false;

        Citizen(int number, int deme, int age, int wealth, int view, int status) {
            this.number = number;
            this.deme = deme;
            this.age = age;
            this.wealth = wealth;
            this.view = view;
            this.status = status;
        }

        int tribe() {
            return deme % TRIBES;
        }

        int wealthClass() {
            if (wealth < 20) {
                return 0;
            }
            if (wealth < 60) {
                return 1;
            }
            return wealth < 120 ? 2 : HIGHEST_CLASS;
        }

        boolean isRich() {
            return wealthClass() == HIGHEST_CLASS;
        }

        boolean agrees(int lean) {
            return gap(view, lean) <= WIDEST_AGREEMENT;
        }

        boolean isFull() {
            return status == FULL;
        }

        boolean isFullOrOut() {
            return status == FULL || status == OUT;
        }

        boolean isGone() {
            return status == EXILED || status == DEAD || status == STRUCK;
        }

        boolean isBarred(int day) {
            return day < barredTo;
        }

        boolean canJudge() {
            return isFull() && age >= 30;
        }

        boolean hasToBear() {
            return isFullOrOut() && burden != NO_BURDEN && !isBurdenDone;
        }

        boolean mayClaim() {
            return hasToBear() && !hasClaimed;
        }

        boolean mayBeClaimed(Citizen claimer) {
            return isFull() && tribe() == claimer.tribe() && burden == NO_BURDEN;
        }

        /** Pays as far as WEALTH goes. */
        int give(int amount) {
            int given = Math.min(wealth, amount);
            wealth -= given;
            return given;
        }

        String word() {
            switch (status) {
                case WAITS: return "waits";
                case FULL: return "full";
                case OUT: return "out";
                case EXILED: return "exiled";
                case DEAD: return "dead";
                default: return "struck";
            }
        }
    }

    /** LUCK, and the MACHINE. */
    private static final class Lots {
        private static final int COLUMNS = 3;
        private static final int LUCKS = 64;

        int luck = 0;
        int draws = 0;

        int drawOneOf(int many) {
            luck = (13 * luck + 5) % LUCKS;
            draws++;
            return luck * many / LUCKS;
        }

        /** DRAWS one of them and takes that one off the list; null (and no DRAW), if nobody is on it. */
        Citizen drawFrom(ArrayList<Citizen> those) {
            if (those.isEmpty()) {
                return null;
            }
            int place = drawOneOf(those.size());
            return isFrom(place, 0, those.size() - 1) ? those.remove(place) : null;
        }

        void takeRows(ArrayList<Citizen> tickets, int wanted, ArrayList<Citizen> taken) {
            int rows = heightOf(tickets, 0);
            for (int column = 1; column < COLUMNS; column++) {
                rows = Math.min(rows, heightOf(tickets, column));
            }
            int white = Math.min(rows, wanted);
            for (int row = 0; row < rows; row++) {
                if (drawOneOf(rows - row) < white) {
                    white--;
                    takeRow(tickets, row, taken);
                }
            }
        }

        private static int heightOf(ArrayList<Citizen> tickets, int column) {
            int height = 0;
            for (int k = 0; k < tickets.size(); k++) {
                if (tickets.get(k).number % COLUMNS == column) {
                    height++;
                }
            }
            return height;
        }

        private static void takeRow(ArrayList<Citizen> tickets, int row, ArrayList<Citizen> taken) {
            for (int column = 0; column < COLUMNS; column++) {
                Citizen one = ticketAt(tickets, row, column);
                if (one != null) {
                    taken.add(one);
                }
            }
        }

        private static Citizen ticketAt(ArrayList<Citizen> tickets, int row, int column) {
            int above = 0;
            for (int k = 0; k < tickets.size(); k++) {
                Citizen one = tickets.get(k);
                if (one.number % COLUMNS == column) {
                    if (above == row) {
                        return one;
                    }
                    above++;
                }
            }
            return null;
        }
    }

    /** What every part of the city needs: the DAY, the CITIZENS, the TREASURY, what people hold. */
    private static final class City {
        static final int LEASES = 3;
        private static final int OFFICES = 7;
        private static final int FIRST_TREASURY = 300;
        private static final int OFFICE_COST = 2;
        private static final int LAST_AGE = 75;

        int day = 0;
        boolean isFree = true;
        int unrest = 0;
        int treasury = FIRST_TREASURY;
        int takenIn = 0;
        int paidOut = 0;
        int purse = 0;
        int chest = 0;
        int ships = 0;
        int war = NONE;
        Citizen chair = null;
        final Lots lots = new Lots();
        final ArrayList<Citizen> citizens = new ArrayList<>();
        final ArrayList<Office> offices = new ArrayList<>();
        final Citizen[] leaseholders = new Citizen[LEASES];
        final int[] rents = new int[LEASES];
        private final ArrayList<Citizen> unwanted = new ArrayList<>();

        City() {
            for (int k = 0; k < OFFICES; k++) {
                offices.add(new Office(k));
            }
        }

        int year() {
            return day / YEAR_DAYS;
        }

        int prytany() {
            return day % YEAR_DAYS / PRYTANY_DAYS;
        }

        Citizen numbered(int number) {
            return isFrom(number, 0, citizens.size() - 1) ? citizens.get(number) : null;
        }

        int inscribe(int deme, int age, int wealth, int view, int status) {
            int number = citizens.size();
            citizens.add(new Citizen(number, deme, age, wealth, view, status));
            return number;
        }

        boolean isWelcome(int deme, int view) {
            int members = 0;
            int agree = 0;
            for (int k = 0; k < citizens.size(); k++) {
                Citizen one = citizens.get(k);
                if (one.isFull() && one.deme == deme) {
                    members++;
                    agree += asNumber(one.agrees(view));
                }
            }
            return members == 0 || 2 * agree > members;
        }

        int purgeDeme(int deme) {
            unwanted.clear();
            for (int k = 0; k < citizens.size(); k++) {
                Citizen one = citizens.get(k);
                if (one.isFull() && one.deme == deme && isUnwanted(one)) {
                    unwanted.add(one);
                }
            }
            for (int k = 0; k < unwanted.size(); k++) {
                sendAway(unwanted.get(k), Citizen.WAITS);
            }
            return unwanted.size();
        }

        /** Never so without others in the DEME: 0 is not below 0. */
        private boolean isUnwanted(Citizen one) {
            int others = 0;
            int agree = 0;
            for (int k = 0; k < citizens.size(); k++) {
                Citizen other = citizens.get(k);
                if (other != one && other.isFull() && other.deme == one.deme) {
                    others++;
                    agree += asNumber(other.agrees(one.view));
                }
            }
            return 2 * agree < others;
        }

        int full() {
            return countOf(Citizen.FULL, 0, NONE);
        }

        int fullAgreeing(int lean) {
            int count = 0;
            for (int k = 0; k < citizens.size(); k++) {
                Citizen one = citizens.get(k);
                count += asNumber(one.isFull() && one.agrees(lean));
            }
            return count;
        }

        int councilAgreeing(int lean) {
            int count = 0;
            for (int k = 0; k < citizens.size(); k++) {
                Citizen one = citizens.get(k);
                count += asNumber(one.isInCouncil && one.agrees(lean));
            }
            return count;
        }

        int councillors() {
            int count = 0;
            for (int k = 0; k < citizens.size(); k++) {
                count += asNumber(citizens.get(k).isInCouncil);
            }
            return count;
        }

        int countOf(int status, int leastAge, int tribe) {
            int count = 0;
            for (int k = 0; k < citizens.size(); k++) {
                Citizen one = citizens.get(k);
                boolean isOfTribe = tribe == NONE || one.tribe() == tribe;
                count += asNumber(one.status == status && one.age >= leastAge && isOfTribe);
            }
            return count;
        }

        /** To move and to sue; to stand, one has to be FIT too. */
        boolean mayAct(Citizen one) {
            return one.isFull() && !one.isBarred(day);
        }

        void bar(Citizen one) {
            one.barredTo = day + 40;
        }

        void takeIn(int amount) {
            treasury += amount;
            takenIn += amount;
        }

        /** Whether the TREASURY had so much; otherwise it pays what it has. */
        boolean payOut(int amount) {
            int paid = Math.min(treasury, amount);
            treasury -= paid;
            paidOut += paid;
            return paid == amount;
        }

        void calm(int less) {
            unrest = Math.max(0, unrest - less);
        }

        void fine(Citizen one, int amount) {
            int paid = one.give(amount);
            takeIn(paid);
            one.debt += amount - paid;
            if (one.isFull() && one.debt > 0) {
                one.status = Citizen.OUT;
                leaveCouncil(one);
            }
        }

        int payDebt(Citizen one) {
            int paid = one.give(one.debt);
            one.debt -= paid;
            takeIn(paid);
            if (one.status == Citizen.OUT && one.debt == 0) {
                one.status = Citizen.FULL;
            }
            return paid;
        }

        int allDebts() {
            int sum = 0;
            for (int k = 0; k < citizens.size(); k++) {
                sum += citizens.get(k).debt;
            }
            return sum;
        }

        void leaveCouncil(Citizen one) {
            one.isInCouncil = false;
            if (chair == one) {
                chair = null;
            }
        }

        void dissolveCouncil() {
            for (int k = 0; k < citizens.size(); k++) {
                citizens.get(k).isInCouncil = false;
            }
            chair = null;
        }

        /** For one who WAITS, is EXILED, DEAD or STRUCK from now on. */
        void sendAway(Citizen one, int status) {
            one.status = status;
            leaveCouncil(one);
            for (int k = 0; k < offices.size(); k++) {
                if (offices.get(k).holder == one) {
                    offices.get(k).holder = null;
                }
            }
            for (int k = 0; k < LEASES; k++) {
                if (leaseholders[k] == one) {
                    freeLease(k);
                }
            }
            one.burden = Citizen.NO_BURDEN;
            one.isBurdenDone = false;
            one.debt = 0;
            one.accountDue = NONE;
        }

        int officeOf(Citizen one) {
            for (int k = 0; k < offices.size(); k++) {
                if (offices.get(k).holder == one) {
                    return k;
                }
            }
            return NONE;
        }

        void dismissAll() {
            for (int k = 0; k < offices.size(); k++) {
                offices.get(k).dismiss(this);
            }
        }

        /** Without accounts. */
        void emptyOffices() {
            for (int k = 0; k < offices.size(); k++) {
                offices.get(k).holder = null;
            }
        }

        void askConfidence() {
            for (int k = 0; k < offices.size(); k++) {
                Office office = offices.get(k);
                if (office.holder != null && 2 * fullAgreeing(office.holder.view) < full()) {
                    office.dismiss(this);
                }
            }
        }

        void payOffices() {
            for (int k = 0; k < offices.size(); k++) {
                if (offices.get(k).holder != null) {
                    payOut(OFFICE_COST);
                }
            }
        }

        /** Who held it ahead of that; null, if nobody. */
        Citizen letLease(int lease, Citizen one, int rent) {
            if (!isFrom(lease, 0, LEASES - 1)) {
                return null;
            }
            Citizen before = leaseholders[lease];
            leaseholders[lease] = one;
            rents[lease] = rent;
            return before;
        }

        private void freeLease(int lease) {
            letLease(lease, null, 0);
        }

        void collectRents() {
            for (int k = 0; k < LEASES; k++) {
                Citizen holder = leaseholders[k];
                if (holder != null) {
                    fine(holder, rents[k]);
                }
            }
            for (int k = 0; k < LEASES; k++) {
                freeLease(k);
            }
        }

        void growOlder() {
            for (int k = 0; k < citizens.size(); k++) {
                Citizen one = citizens.get(k);
                one.age++;
                if (one.age >= LAST_AGE) {
                    sendAway(one, Citizen.DEAD);
                }
            }
        }

        boolean areCitizensSound() {
            for (int k = 0; k < citizens.size(); k++) {
                Citizen one = citizens.get(k);
                if (one.isFull() ? one.debt != 0 : one.isInCouncil) {
                    return false;
                }
            }
            return true;
        }

        boolean areOfficesSound() {
            for (int k = 0; k < offices.size(); k++) {
                Citizen holder = offices.get(k).holder;
                if (holder != null && (!holder.isFullOrOut() || officeOf(holder) != k)) {
                    return false;
                }
            }
            return true;
        }

        boolean isTreasurySound() {
            return treasury == FIRST_TREASURY + takenIn - paidOut;
        }
    }

    private static final class Office {
        static final int MOST_STANDING = 6;
        private static final int TREASURER = 1;
        private static final int FIRST_GENERAL = 3;
        private static final int ACCOUNT_DAYS = 10;

        final int number;
        Citizen holder = null;
        int since = 0;
        private int handledBefore = 0;
        final ArrayList<Citizen> standing = new ArrayList<>();

        Office(int number) {
            this.number = number;
        }

        private boolean isGeneral() {
            return number >= FIRST_GENERAL;
        }

        static int generalOf(int tribe) {
            return FIRST_GENERAL + tribe;
        }

        boolean isFit(Citizen one, City city) {
            if (!city.mayAct(one) || one.age < 30 || city.officeOf(one) != NONE) {
                return false;
            }
            if (number == TREASURER) {
                return one.isRich();
            }
            return !isGeneral() || one.wealthClass() >= 1 && generalOf(one.tribe()) == number;
        }

        boolean isStanding(Citizen one) {
            for (int k = 0; k < standing.size(); k++) {
                if (standing.get(k) == one) {
                    return true;
                }
            }
            return false;
        }

        void choose(City city) {
            int chances = standing.size();
            for (int k = 0; k < chances && holder == null; k++) {
                Citizen next = isGeneral() ? takeMostLiked(city) : city.lots.drawFrom(standing);
                if (next != null && isFit(next, city) && isAccepted(next, city)) {
                    install(next, city);
                }
            }
        }

        private static boolean isAccepted(Citizen one, City city) {
            int councillors = city.councillors();
            if (councillors == 0) {
                return true;
            }
            return !one.isInCouncil && 2 * city.councilAgreeing(one.view) > councillors;
        }

        private Citizen takeMostLiked(City city) {
            int best = NONE;
            int most = NONE;
            for (int k = 0; k < standing.size(); k++) {
                int votes = city.fullAgreeing(standing.get(k).view);
                if (votes > most) {
                    most = votes;
                    best = k;
                }
            }
            return isFrom(best, 0, standing.size() - 1) ? standing.remove(best) : null;
        }

        private void install(Citizen one, City city) {
            holder = one;
            since = city.day;
            handledBefore = city.takenIn + city.paidOut;
            standing.clear();
        }

        int handled(City city) {
            if (holder == null) {
                return 0;
            }
            if (number == TREASURER) {
                return city.takenIn + city.paidOut - handledBefore;
            }
            return city.day - since;
        }

        /** Out of OFFICE, with an account. */
        void dismiss(City city) {
            Citizen before = holder;
            if (before == null) {
                return;
            }
            int handled = handled(city);
            holder = null;
            before.accountDue = city.day + ACCOUNT_DAYS;
            if (city.lots.drawOneOf(8) == 0) {
                city.fine(before, handled / 10);
            }
        }
    }

    private static final class Council {
        private static final int LEAST_AGE = 30;
        private static final int MOST_TIMES = 2;

        private final City city;
        private final int[] order = new int[TRIBES];
        private final int[] left = new int[TRIBES];
        private final ArrayList<Citizen> tickets = new ArrayList<>();
        private final ArrayList<Citizen> taken = new ArrayList<>();

        Council(City city) {
            this.city = city;
            Arrays.fill(order, NONE);
        }

        int size() {
            return city.councillors();
        }

        void drawMembers() {
            city.dissolveCouncil();
            taken.clear();
            for (int tribe = 0; tribe < TRIBES; tribe++) {
                gatherTickets(tribe);
                city.lots.takeRows(tickets, 1, taken);
            }
            for (int k = 0; k < taken.size(); k++) {
                taken.get(k).isInCouncil = true;
                taken.get(k).timesSeated++;
            }
            drawOrder();
        }

        private void gatherTickets(int tribe) {
            tickets.clear();
            for (int k = 0; k < city.citizens.size(); k++) {
                Citizen one = city.citizens.get(k);
                if (one.tribe() == tribe && isEligible(one)) {
                    tickets.add(one);
                }
            }
        }

        private boolean isEligible(Citizen one) {
            return one.isFull() && !one.isBarred(city.day) && one.age >= LEAST_AGE
                    && city.officeOf(one) == NONE && one.timesSeated < MOST_TIMES;
        }

        private void drawOrder() {
            for (int tribe = 0; tribe < TRIBES; tribe++) {
                left[tribe] = tribe;
            }
            for (int prytany = 0; prytany < TRIBES; prytany++) {
                int many = TRIBES - prytany;
                int place = many > 1 ? city.lots.drawOneOf(many) : 0;
                putAt(order, prytany, valueAt(left, place));
                for (int k = place; k + 1 < many; k++) {
                    putAt(left, k, valueAt(left, k + 1));
                }
            }
        }

        int prytanyTribe() {
            return valueAt(order, city.prytany());
        }

        private boolean isPrytanis(Citizen one) {
            return one.isInCouncil && one.tribe() == prytanyTribe();
        }

        int prytanes() {
            int count = 0;
            for (int k = 0; k < city.citizens.size(); k++) {
                count += asNumber(isPrytanis(city.citizens.get(k)));
            }
            return count;
        }

        int tribes() {
            int set = 0;
            for (int k = 0; k < city.citizens.size(); k++) {
                Citizen one = city.citizens.get(k);
                if (one.isInCouncil) {
                    set |= 1 << one.tribe();
                }
            }
            return set;
        }

        void drawChair() {
            city.chair = null;
            if (!city.isFree) {
                return;
            }
            int prytanyNow = city.day / PRYTANY_DAYS;
            tickets.clear();
            for (int k = 0; k < city.citizens.size(); k++) {
                Citizen one = city.citizens.get(k);
                if (isPrytanis(one) && one.chairPrytany != prytanyNow) {
                    tickets.add(one);
                }
            }
            Citizen drawn = city.lots.drawFrom(tickets);
            if (drawn != null) {
                drawn.chairPrytany = prytanyNow;
                city.chair = drawn;
            }
        }

        boolean isChairSound() {
            return city.chair == null || isPrytanis(city.chair);
        }
    }

    /** What was moved; a DECREE is a motion that PASSED. */
    private static final class Motion {
        static final int DECREE = 0;
        static final int LAW = 1;
        static final int FOR_PURSE = 2;
        static final int FOR_CHEST = 3;
        static final int RECALL = 4;
        static final int WAR = 5;

        final Citizen mover;
        final int kind;
        final int topic;
        int lean;
        final int amount;
        int day = NONE;
        boolean isKept = false;
        boolean isVoid = false;
        boolean isSued = false;

        Motion(Citizen mover, int kind, int topic, int lean, int amount) {
            this.mover = mover;
            this.kind = kind;
            this.topic = topic;
            this.lean = lean;
            this.amount = amount;
        }

        boolean isPassing(int votesFor, int present, int full) {
            if (kind == RECALL) {
                return 3 * votesFor >= 2 * present && 10 * present >= 6 * full;
            }
            return 2 * votesFor > present;
        }
    }

    private static final class Assembly {
        private static final int MOST_DECREES = 12;
        private static final int WIDEST_FROM_LAW = 6;
        private static final int LEAST_FOR_SHERDS = 6;

        private final City city;
        private final Courts courts;
        final ArrayList<Motion> agenda = new ArrayList<>();
        final ArrayList<Motion> decrees = new ArrayList<>();
        private final int[] laws = new int[TOPICS];
        private final ArrayList<Citizen> present = new ArrayList<>();
        private final int[] timesNamed = new int[MOST_CITIZENS];
        int lastDay = NONE;
        int sherdsYear = NONE;

        Assembly(City city, Courts courts) {
            this.city = city;
            this.courts = courts;
            Arrays.fill(laws, NONE);
        }

        int lawOn(int topic) {
            return valueAt(laws, topic);
        }

        void dropLawsFarFrom(int lean) {
            for (int topic = 0; topic < TOPICS; topic++) {
                if (isTooFar(laws[topic], lean)) {
                    laws[topic] = NONE;
                }
            }
        }

        private static boolean isTooFar(int law, int lean) {
            return law != NONE && gap(law, lean) > WIDEST_FROM_LAW;
        }

        int proofAgainst(Motion decree) {
            int law = lawOn(decree.topic);
            return law != NONE ? law : (decree.lean + 8) % (HIGHEST_LEAN + 1);
        }

        private void gatherPresent() {
            present.clear();
            for (int k = 0; k < city.citizens.size(); k++) {
                Citizen one = city.citizens.get(k);
                if (one.isFull() && (one.number + city.day) % 4 != 0) {
                    present.add(one);
                }
            }
        }

        int countPresent() {
            gatherPresent();
            return present.size();
        }

        int foretell(Motion motion) {
            gatherPresent();
            int votesFor = agreeing(present, motion.lean);
            return motion.isPassing(votesFor, present.size(), city.full()) ? votesFor : NONE;
        }

        int vote() {
            lastDay = city.day;
            gatherPresent();
            int full = city.full();
            city.payOut(present.size() / 4);
            int passed = 0;
            for (int k = 0; k < agenda.size(); k++) {
                Motion motion = agenda.get(k);
                int votesFor = agreeing(present, motion.lean);
                if (motion.isPassing(votesFor, present.size(), full)) {
                    passed |= 1 << k;
                    carryOut(motion);
                }
            }
            agenda.clear();
            return passed;
        }

        private void carryOut(Motion motion) {
            switch (motion.kind) {
                case Motion.DECREE:
                    keepDecree(motion);
                    break;
                case Motion.LAW:
                    courts.drawJury(1, null, null);
                    if (courts.decide(motion.lean)) {
                        putAt(laws, motion.topic, motion.lean);
                    }
                    break;
                case Motion.FOR_PURSE:
                    city.purse += spend(motion.amount);
                    break;
                case Motion.FOR_CHEST:
                    city.chest += spend(motion.amount);
                    break;
                case Motion.RECALL:
                    callBack(city.numbered(motion.amount));
                    break;
                default:
                    if (city.war == NONE) {
                        city.war = motion.amount;
                    }
                    break;
            }
        }

        private void keepDecree(Motion motion) {
            motion.day = city.day;
            motion.isKept = true;
            decrees.add(motion);
            if (decrees.size() > MOST_DECREES) {
                decrees.remove(0).isKept = false;
            }
        }

        /** All of it or nothing. */
        private int spend(int amount) {
            if (city.treasury < amount) {
                return 0;
            }
            city.payOut(amount);
            return amount;
        }

        private static void callBack(Citizen one) {
            if (one != null && one.status == Citizen.EXILED) {
                one.status = Citizen.FULL;
            }
        }

        /** Of those on a TOPIC that would hold by themselves the latest one HOLDS. */
        boolean isHolding(int decree) {
            if (!isFrom(decree, 0, decrees.size() - 1) || !isValid(decrees.get(decree))) {
                return false;
            }
            int topic = decrees.get(decree).topic;
            for (int later = decree + 1; later < decrees.size(); later++) {
                Motion other = decrees.get(later);
                if (other.topic == topic && isValid(other)) {
                    return false;
                }
            }
            return true;
        }

        private boolean isValid(Motion decree) {
            return !decree.isVoid && !courts.isContested(decree)
                    && !isTooFar(lawOn(decree.topic), decree.lean);
        }

        boolean areDecreesSound() {
            for (int topic = 0; topic < TOPICS; topic++) {
                int holding = 0;
                for (int k = 0; k < decrees.size(); k++) {
                    Motion decree = decrees.get(k);
                    if (decree.topic == topic && isHolding(k)) {
                        holding++;
                        if (isTooFar(laws[topic], decree.lean)) {
                            return false;
                        }
                    }
                }
                if (holding > 1) {
                    return false;
                }
            }
            return true;
        }

        /** Who is EXILED; null, if nobody. */
        Citizen writeSherds() {
            sherdsYear = city.year();
            gatherPresent();
            int many = present.size();
            if (many < LEAST_FOR_SHERDS || 3 * many <= city.full()) {
                return null;
            }
            Arrays.fill(timesNamed, 0);
            for (int k = 0; k < many; k++) {
                Citizen named = mostForeignTo(present.get(k));
                if (named != null) {
                    addAt(timesNamed, named.number, 1);
                }
            }
            int most = placeOfMost(timesNamed);
            Citizen exile = city.numbered(most);
            if (exile == null || 3 * valueAt(timesNamed, most) < many) {
                return null;
            }
            city.sendAway(exile, Citizen.EXILED);
            city.unrest++;
            return exile;
        }

        private Citizen mostForeignTo(Citizen writer) {
            Citizen best = null;
            for (int k = 0; k < city.citizens.size(); k++) {
                Citizen one = city.citizens.get(k);
                if (one != writer && one.isFull() && (best == null || isAhead(one, best, writer))) {
                    best = one;
                }
            }
            return best;
        }

        private static boolean isAhead(Citizen one, Citizen best, Citizen writer) {
            int more = gap(one.view, writer.view) - gap(best.view, writer.view);
            return more > 0 || more == 0 && one.wealth > best.wealth;
        }
    }

    private static final class Suit {
        static final int PRIVATE = 0;
        static final int PUBLIC = 1;
        static final int DECREE = 2;
        static final int ACCOUNT = 3;
        private static final int MOST_ARBITRATED = 50;

        final Citizen accuser;
        final Citizen accused;
        final int kind;
        final int amount;
        final int proof;
        final Motion decree;
        boolean isArbitrated = false;

        Suit(Citizen accuser, Citizen accused, int kind, int amount, int proof, Motion decree) {
            this.accuser = accuser;
            this.accused = accused;
            this.kind = kind;
            this.amount = amount;
            this.proof = proof;
            this.decree = decree;
        }

        boolean isPrivate() {
            return kind == PRIVATE;
        }

        int water() {
            return isPrivate() ? 4 + amount / 10 : 20;
        }

        boolean canBeArbitrated() {
            return isPrivate() && amount <= MOST_ARBITRATED && !isArbitrated;
        }

        boolean isMoot() {
            return accuser.isGone() || accused.isGone() || decree != null && !decree.isKept;
        }

        boolean isOfCase(Citizen one) {
            return one == accuser || one == accused;
        }
    }

    /** Suits that wait, juries, arbitrators. */
    private static final class Courts {
        private static final int WATER = 60;
        private static final int ARBITRATOR_AGE = 59;
        private static final int IDLE_SUIT_FINE = 10;
        private static final int STRICT_GAP = 2;

        private static final int TO_COURT = 0;
        private static final int FOR_ACCUSER = 1;
        private static final int FOR_ACCUSED = 2;

        private final City city;
        final ArrayList<Suit> suits = new ArrayList<>();
        final ArrayList<Citizen> jury = new ArrayList<>();
        private final ArrayList<Citizen> tickets = new ArrayList<>();
        int votesFor = 0;
        int won = 0;
        int lost = 0;
        int dropped = 0;
        int lastDay = NONE;

        Courts(City city) {
            this.city = city;
        }

        int bring(Suit suit) {
            suits.add(suit);
            return suits.size() - 1;
        }

        boolean isContested(Motion decree) {
            for (int k = 0; k < suits.size(); k++) {
                if (suits.get(k).decree == decree) {
                    return true;
                }
            }
            return false;
        }

        void drawJury(int rows, Citizen one, Citizen other) {
            jury.clear();
            for (int tribe = 0; tribe < TRIBES; tribe++) {
                gatherJurors(tribe, one, other);
                city.lots.takeRows(tickets, rows, jury);
            }
            if (!city.payOut(jury.size())) {
                city.unrest++;
            }
        }

        private void gatherJurors(int tribe, Citizen one, Citizen other) {
            tickets.clear();
            for (int k = 0; k < city.citizens.size(); k++) {
                Citizen juror = city.citizens.get(k);
                if (juror.tribe() == tribe && juror.canJudge() && juror != one && juror != other) {
                    tickets.add(juror);
                }
            }
        }

        boolean decide(int lean) {
            votesFor = agreeing(jury, lean);
            return 2 * votesFor > jury.size();
        }

        boolean hearAppeal(Citizen one) {
            drawJury(1, one, null);
            if (decide(one.view)) {
                one.status = one.debt > 0 ? Citizen.OUT : Citizen.FULL;
            } else {
                city.sendAway(one, Citizen.STRUCK);
            }
            return one.isFull();
        }

        int findByArbitrator(int place) {
            if (!isFrom(place, 0, suits.size() - 1)) {
                return NONE;
            }
            Suit suit = suits.get(place);
            Citizen arbitrator = drawArbitrator(suit);
            if (arbitrator == null) {
                return NONE;
            }
            suit.isArbitrated = true;
            boolean isForAccuser = arbitrator.agrees(suit.proof);
            Citizen loser = isForAccuser ? suit.accused : suit.accuser;
            if (loser.view % 2 != 0) {
                return TO_COURT;
            }
            suits.remove(place);
            if (!isForAccuser) {
                return FOR_ACCUSED;
            }
            compensate(suit);
            return FOR_ACCUSER;
        }

        private Citizen drawArbitrator(Suit suit) {
            tickets.clear();
            for (int k = 0; k < city.citizens.size(); k++) {
                Citizen one = city.citizens.get(k);
                if (one.isFull() && one.age == ARBITRATOR_AGE && !suit.isOfCase(one)) {
                    tickets.add(one);
                }
            }
            return city.lots.drawFrom(tickets);
        }

        private static void compensate(Suit suit) {
            suit.accuser.wealth += suit.accused.give(suit.amount);
        }

        /** How many suits were tried. */
        int sit() {
            lastDay = city.day;
            int water = WATER;
            int tried = 0;
            int waiting = suits.size();
            for (int k = 0; k < waiting && !suits.isEmpty(); k++) {
                Suit suit = suits.get(0);
                if (suit.isMoot()) {
                    suits.remove(0);
                    dropped++;
                } else if (suit.water() > water) {
                    break;
                } else {
                    water -= suit.water();
                    suits.remove(0);
                    judge(suit);
                    tried++;
                }
            }
            return tried;
        }

        private void judge(Suit suit) {
            drawJury(suit.isPrivate() ? 1 : 2, suit.accuser, suit.accused);
            if (decide(suit.proof)) {
                won++;
                punish(suit);
            } else {
                lost++;
                if (!suit.isPrivate() && 5 * votesFor < jury.size()) {
                    city.fine(suit.accuser, IDLE_SUIT_FINE);
                    city.bar(suit.accuser);
                }
            }
        }

        private void punish(Suit suit) {
            if (suit.isPrivate()) {
                compensate(suit);
            } else if (suit.kind == Suit.DECREE) {
                if (suit.decree != null) {
                    suit.decree.isVoid = true;
                }
                city.fine(suit.accused, suit.amount / 2);
                city.bar(suit.accused);
            } else {
                city.fine(suit.accused, isStrict(suit.proof) ? suit.amount : (suit.amount + 3) / 4);
                if (suit.kind == Suit.ACCOUNT) {
                    suit.accused.accountDue = NONE;
                }
            }
        }

        private boolean isStrict(int proof) {
            int near = 0;
            for (int k = 0; k < jury.size(); k++) {
                near += asNumber(gap(jury.get(k).view, proof) <= STRICT_GAP);
            }
            return 2 * near > jury.size();
        }

        /** By an AMNESTY: only private ones wait on. */
        void dropPublicSuits() {
            for (int k = suits.size() - 1; k >= 0; k--) {
                if (!suits.get(k).isPrivate()) {
                    suits.remove(k);
                    dropped++;
                }
            }
        }
    }

    /** ALLIES, BURDENS and the festival. */
    private static final class Estate {
        static final int MOST_ALLIES = 4;
        private static final int IDLE_FINE = 60;
        private static final int BURDEN_COST = 40;
        private static final int JUDGES = 5;
        private static final int OPENED = 3;

        private static final int NOTHING = 0;
        private static final int PASSED_ON = 1;
        private static final int EXCHANGED = 2;

        private final City city;
        int allies = 0;
        private final int[] tributes = new int[MOST_ALLIES];
        private final int[] mights = new int[MOST_ALLIES];
        final int[] splendours = new int[TRIBES];
        final int[] festivalsWon = new int[TRIBES];
        private final int[] ranks = new int[TRIBES];
        private final int[] votes = new int[TRIBES];
        private final ArrayList<Citizen> left = new ArrayList<>();
        private final ArrayList<Citizen> judges = new ArrayList<>();
        int festivalYear = NONE;

        Estate(City city) {
            this.city = city;
        }

        int addAlly(int tribute, int might) {
            putAt(tributes, allies, tribute);
            putAt(mights, allies, might);
            allies++;
            return allies;
        }

        int allTribute() {
            int sum = 0;
            for (int k = 0; k < allies; k++) {
                sum += valueAt(tributes, k);
            }
            return sum;
        }

        void settleAllies() {
            int before = allies;
            allies = 0;
            for (int k = 0; k < before; k++) {
                int might = valueAt(mights, k);
                if (might > 20 + 20 * city.ships) {
                    city.unrest += 2;
                } else {
                    city.takeIn(valueAt(tributes, k));
                    addAlly(valueAt(tributes, k), might);
                }
            }
        }

        void fineIdle() {
            for (int k = 0; k < city.citizens.size(); k++) {
                if (city.citizens.get(k).hasToBear()) {
                    city.fine(city.citizens.get(k), IDLE_FINE);
                }
            }
        }

        int toBearIn(int tribe) {
            int count = 0;
            for (int k = 0; k < city.citizens.size(); k++) {
                Citizen one = city.citizens.get(k);
                count += asNumber(one.tribe() == tribe && one.hasToBear());
            }
            return count;
        }

        /** For the YEAR that begins. */
        void tellBurdens() {
            city.ships = 0;
            Arrays.fill(splendours, 0);
            for (int k = 0; k < city.citizens.size(); k++) {
                Citizen one = city.citizens.get(k);
                one.hadBurden = one.burden != Citizen.NO_BURDEN;
                one.burden = Citizen.NO_BURDEN;
                one.isBurdenDone = false;
                one.hasClaimed = false;
            }
            for (int tribe = 0; tribe < TRIBES; tribe++) {
                tellBurden(tribe, Citizen.SHIP);
                tellBurden(tribe, Citizen.CHORUS);
            }
        }

        private void tellBurden(int tribe, int burden) {
            Citizen richest = null;
            for (int k = 0; k < city.citizens.size(); k++) {
                Citizen one = city.citizens.get(k);
                boolean isAhead = richest == null || one.wealth > richest.wealth;
                if (one.tribe() == tribe && isToBeBurdened(one) && isAhead) {
                    richest = one;
                }
            }
            if (richest != null) {
                richest.burden = burden;
            }
        }

        private static boolean isToBeBurdened(Citizen one) {
            return one.isFull() && one.isRich() && !one.hadBurden
                    && one.burden == Citizen.NO_BURDEN;
        }

        int compare(Citizen claimer, Citizen other) {
            claimer.hasClaimed = true;
            if (other.wealth <= claimer.wealth) {
                return NOTHING;
            }
            if (other.view % 2 == 0) {
                other.burden = claimer.burden;
                claimer.burden = Citizen.NO_BURDEN;
                return PASSED_ON;
            }
            int wealth = claimer.wealth;
            claimer.wealth = other.wealth;
            other.wealth = wealth;
            return EXCHANGED;
        }

        /** SHIPS, or the SPLENDOUR. */
        int discharge(Citizen one) {
            one.isBurdenDone = true;
            int answer;
            if (one.burden == Citizen.SHIP) {
                city.ships++;
                answer = city.ships;
            } else {
                answer = 10 + 10 * one.wealthClass();
                putAt(splendours, one.tribe(), answer);
            }
            city.fine(one, BURDEN_COST);
            return answer;
        }

        private boolean hasChorus(int tribe) {
            return valueAt(splendours, tribe) > 0;
        }

        int choruses() {
            int count = 0;
            for (int tribe = 0; tribe < TRIBES; tribe++) {
                count += asNumber(hasChorus(tribe));
            }
            return count;
        }

        /** The TRIBE that wins. */
        int judgeFestival() {
            festivalYear = city.year();
            rankChoruses();
            drawJudges();
            int opened = judges.size() == JUDGES ? OPENED : judges.size();
            boolean isByLot = opened < judges.size();
            Arrays.fill(votes, 0);
            for (int k = 0; k < opened; k++) {
                Citizen judge = isByLot ? city.lots.drawFrom(judges) : judges.get(k);
                if (judge != null) {
                    addAt(votes, favouriteOf(judge), 1);
                }
            }
            int winner = placeOfMost(votes);
            honour(winner);
            return winner;
        }

        private void rankChoruses() {
            int many = choruses();
            int forEach = many == 0 ? 0 : city.purse / 10 / many * 5;
            for (int tribe = 0; tribe < TRIBES; tribe++) {
                if (hasChorus(tribe)) {
                    ranks[tribe] = splendours[tribe] + forEach + city.lots.drawOneOf(20);
                }
            }
        }

        private void drawJudges() {
            left.clear();
            judges.clear();
            for (int k = 0; k < city.citizens.size(); k++) {
                if (city.citizens.get(k).isFull()) {
                    left.add(city.citizens.get(k));
                }
            }
            for (int k = 0; k < JUDGES; k++) {
                Citizen judge = city.lots.drawFrom(left);
                if (judge != null) {
                    judges.add(judge);
                }
            }
        }

        private int favouriteOf(Citizen judge) {
            int best = NONE;
            int most = 0;
            for (int tribe = 0; tribe < TRIBES; tribe++) {
                if (hasChorus(tribe)) {
                    int own = judge.tribe() == tribe ? 8 : 0;
                    int liking = ranks[tribe] + own - gap(judge.view, 4 * tribe);
                    if (best == NONE || liking > most) {
                        best = tribe;
                        most = liking;
                    }
                }
            }
            return best;
        }

        private void honour(int winner) {
            addAt(festivalsWon, winner, 1);
            for (int k = 0; k < city.citizens.size(); k++) {
                Citizen one = city.citizens.get(k);
                if (one.isFull() && one.tribe() == winner) {
                    one.wealth++;
                }
            }
            city.calm(3);
            city.purse = 0;
        }
    }

    /** WAR, and who rules. */
    private static final class Power {
        private static final int UNBEARABLE = 20;
        private static final int MOST_RULERS = 3;
        private static final int EXACTION = 5;
        private static final int AMNESTY_DAYS = 40;
        private static final int LAST_WAR_AGE = 59;

        private final City city;
        private final Assembly assembly;
        private final Courts courts;
        private final ArrayList<Citizen> rulers = new ArrayList<>();
        private final ArrayList<Citizen> called = new ArrayList<>();
        final int[] warDead = new int[TRIBES];
        int levyDay = NONE;
        int oathDay = NONE;

        Power(City city, Assembly assembly, Courts courts) {
            this.city = city;
            this.assembly = assembly;
            this.courts = courts;
        }

        boolean isAmnesty() {
            return oathDay != NONE && city.day <= oathDay + AMNESTY_DAYS;
        }

        Citizen firstRuler() {
            return rulers.isEmpty() ? null : rulers.get(0);
        }

        void beginPrytany() {
            if (!city.isFree) {
                exact();
            } else if (city.unrest >= UNBEARABLE) {
                overthrow();
            }
        }

        private void overthrow() {
            city.isFree = false;
            city.dissolveCouncil();
            city.emptyOffices();
            assembly.agenda.clear();
            for (int k = 0; k < MOST_RULERS; k++) {
                Citizen next = richestBehind();
                if (next != null) {
                    rulers.add(next);
                }
            }
        }

        private Citizen richestBehind() {
            Citizen best = null;
            for (int k = 0; k < city.citizens.size(); k++) {
                Citizen one = city.citizens.get(k);
                boolean isAhead = best == null || one.wealth > best.wealth;
                if (one.isFull() && !isRuler(one) && isAhead) {
                    best = one;
                }
            }
            return best;
        }

        private boolean isRuler(Citizen one) {
            for (int k = 0; k < rulers.size(); k++) {
                if (rulers.get(k) == one) {
                    return true;
                }
            }
            return false;
        }

        /** Those who pay go round those who RULE, at each PRYTANY from the first of these on. */
        private void exact() {
            int turn = 0;
            for (int k = 0; k < city.citizens.size() && turn < rulers.size(); k++) {
                Citizen one = city.citizens.get(k);
                if (one.isFullOrOut() && one.isRich() && !isRuler(one)) {
                    rulers.get(turn).wealth += one.give(EXACTION);
                    turn = turn + 1 < rulers.size() ? turn + 1 : 0;
                }
            }
        }

        boolean revolt(int lean, boolean isOath) {
            if (2 * city.fullAgreeing(lean) <= city.full()) {
                exileOneOf(lean);
                return false;
            }
            city.isFree = true;
            city.unrest = 0;
            assembly.dropLawsFarFrom(lean);
            if (isOath) {
                swear();
            } else {
                exileRulers();
            }
            rulers.clear();
            return true;
        }

        private void exileOneOf(int lean) {
            called.clear();
            for (int k = 0; k < city.citizens.size(); k++) {
                Citizen one = city.citizens.get(k);
                if (one.isFull() && one.agrees(lean)) {
                    called.add(one);
                }
            }
            Citizen exile = city.lots.drawFrom(called);
            if (exile != null) {
                city.sendAway(exile, Citizen.EXILED);
            }
        }

        private void swear() {
            oathDay = city.day;
            courts.dropPublicSuits();
            for (int k = 0; k < city.citizens.size(); k++) {
                city.citizens.get(k).accountDue = NONE;
            }
        }

        private void exileRulers() {
            for (int k = 0; k < rulers.size(); k++) {
                if (rulers.get(k).isFullOrOut()) {
                    city.sendAway(rulers.get(k), Citizen.EXILED);
                }
            }
        }

        /** MIGHT less the ENEMY. */
        int fight(int tribes) {
            levyDay = city.day;
            int might = mightOf(tribes);
            city.chest -= city.chest / 2;
            int enemy = city.war + city.lots.drawOneOf(40);
            boolean isWon = might > enemy;
            if (isWon) {
                city.takeIn(city.war);
                city.calm(2);
                city.war = NONE;
            } else {
                city.war = Math.max(0, city.war - 10);
                city.unrest += 3;
            }
            buryFallen(isWon ? 16 : 8);
            return might - enemy;
        }

        /** HOPLITES stand in the list of those called, behind it. */
        private int mightOf(int tribes) {
            called.clear();
            int rowers = 0;
            int generals = 0;
            for (int tribe = 0; tribe < TRIBES; tribe++) {
                if ((tribes >> tribe & 1) == 1) {
                    rowers += callUp(tribe);
                    generals += asNumber(hasGeneral(tribe));
                }
            }
            int manned = Math.min(rowers / 4, city.ships);
            return 3 * called.size() + 5 * generals + 10 * manned + city.chest / 10;
        }

        /** How many rowers come; HOPLITES are put behind those called. */
        private int callUp(int tribe) {
            int rowers = 0;
            for (int k = 0; k < city.citizens.size(); k++) {
                Citizen one = city.citizens.get(k);
                if (one.isFull() && one.tribe() == tribe && isFrom(one.age, 18, LAST_WAR_AGE)) {
                    if (one.wealthClass() == 0) {
                        rowers++;
                    } else {
                        called.add(one);
                    }
                }
            }
            return rowers;
        }

        private boolean hasGeneral(int tribe) {
            int office = Office.generalOf(tribe);
            return isFrom(office, 0, city.offices.size() - 1)
                    && city.offices.get(office).holder != null;
        }

        private void buryFallen(int oneOf) {
            for (int k = 0; k < called.size(); k++) {
                Citizen hoplite = called.get(k);
                if (city.lots.drawOneOf(oneOf) == 0) {
                    city.sendAway(hoplite, Citizen.DEAD);
                    addAt(warDead, hoplite.tribe(), 1);
                }
            }
        }
    }
}
