import java.util.ArrayList;
import java.util.Arrays;
import java.util.LinkedHashSet;
import java.util.List;
import java.util.Set;
import java.util.TreeSet;
import java.util.function.IntPredicate;
import java.util.stream.Collectors;
import java.util.stream.IntStream;

/**
 * The document once more, read section by section into another form (columns of numbers, streams),
 * so that a slip in the one can be seen by the other. Nothing of it is shared with the program.
 */
public final class PlainCity {
    private static final String[] WORDS = {"waits", "full", "out", "exiled", "dead", "struck"};

    private int day, luck, draws, unrest, treasury = 300, in, out, purse, chest, ships, bells;
    private boolean people = true;

    private final List<Integer> deme = new ArrayList<>(), age = new ArrayList<>(), view = new ArrayList<>(),
            wealth = new ArrayList<>(), debt = new ArrayList<>(), status = new ArrayList<>(),
            barred = new ArrayList<>(), seated = new ArrayList<>(), burden = new ArrayList<>(),
            due = new ArrayList<>();
    private final Set<Integer> doneBurden = new TreeSet<>(), claimed = new TreeSet<>();

    private Set<Integer> boule = new TreeSet<>();
    private final Set<Integer> chairedNow = new TreeSet<>();
    private List<Integer> order = new ArrayList<>();
    private int chair = -1;

    private final List<int[]> agenda = new ArrayList<>();      // mover, kind, topic, lean, amount
    private final List<int[]> decrees = new ArrayList<>();     // mover, topic, lean, day, id, void, sued
    private int nextDecree = 0;
    private final Integer[] laws = new Integer[8];
    private int assemblyDay = -1, courtDay = -1, levyDay = -1, festivalYear = -1, sherdYear = -1;

    private final int[] holder = new int[7], since = new int[7], mark = new int[7];
    private final List<List<Integer>> candidates = new ArrayList<>();

    private final List<int[]> suits = new ArrayList<>();       // accuser, accused, kind, amount, proof, decree id, arbitrated
    private List<Integer> latestJury = new ArrayList<>();
    private int latestFor, won, lost, dropped;

    private final int[] leaseOf = {-1, -1, -1}, rent = new int[3];
    private final List<int[]> allies = new ArrayList<>();
    private final int[] splendour = new int[4], wins = new int[4], fallen = new int[4];

    private int war = -1;
    private List<Integer> rulers = new ArrayList<>();
    private int oath = -1, amnestyEnd = -1;

    public PlainCity() {
        Arrays.fill(holder, -1);
        for (int k = 0; k < 7; k++) candidates.add(new ArrayList<>());
    }

    // ---------------------------------------------------------------- helpers
    private static void index(boolean ok) { if (!ok) throw new IndexOutOfBoundsException(); }
    private static void argument(boolean ok) { if (!ok) throw new IllegalArgumentException(); }
    private static void state(boolean ok) { if (!ok) throw new IllegalStateException(); }
    private static boolean in(int v, int a, int b) { return a <= v && v <= b; }
    private boolean is(int c) { return in(c, 0, deme.size() - 1); }
    private List<Integer> those(IntPredicate p) {
        return IntStream.range(0, deme.size()).filter(p).boxed().collect(Collectors.toCollection(ArrayList::new));
    }
    private boolean full(int c) { return status.get(c) == 1; }
    private boolean gone(int c) { return status.get(c) >= 3; }
    private int tribe(int c) { return deme.get(c) % 4; }
    private boolean agree(int c, int lean) { return Math.abs(view.get(c) - lean) <= 5; }
    private List<Integer> fulls() { return those(this::full); }
    private int fullsFor(int lean) { return (int) fulls().stream().filter(c -> agree(c, lean)).count(); }
    private int cls(int c) { int w = wealth.get(c); return w < 20 ? 0 : w < 60 ? 1 : w < 120 ? 2 : 3; }
    private boolean isBarred(int c) { return day < barred.get(c); }
    private static void add(List<Integer> l, int c, int more) { l.set(c, l.get(c) + more); }
    private int draw(int n) { luck = (13 * luck + 5) % 64; draws++; return luck * n / 64; }
    private void gain(int a) { treasury += a; in += a; }
    private int cost(int a) { int p = Math.min(a, treasury); treasury -= p; out += p; return p; }

    private List<Integer> machine(List<Integer> tickets, int wanted) {
        List<List<Integer>> columns = List.of(new ArrayList<>(), new ArrayList<>(), new ArrayList<>());
        for (int t : tickets) columns.get(t % 3).add(t);
        int rows = columns.stream().mapToInt(List::size).min().getAsInt();
        int whiteLeft = Math.min(wanted, rows), diceLeft = rows;
        List<Integer> taken = new ArrayList<>();
        for (int r = 0; r < rows; r++) {
            boolean white = draw(diceLeft) < whiteLeft;
            diceLeft--;
            if (white) { whiteLeft--; for (List<Integer> c : columns) taken.add(c.get(r)); }
        }
        return taken;
    }

    private void noCouncillor(int c) { boule.remove(c); if (chair == c) chair = -1; }

    private void become(int c, int s) {
        status.set(c, s);
        noCouncillor(c);
        if (s == 0 || s >= 3) {
            for (int o = 0; o < 7; o++) if (holder[o] == c) holder[o] = -1;
            for (int l = 0; l < 3; l++) if (leaseOf[l] == c) { leaseOf[l] = -1; rent[l] = 0; }
            burden.set(c, 0); doneBurden.remove(c); debt.set(c, 0); due.set(c, -1);
        }
    }

    private void fine(int c, int amount) {
        int paid = Math.min(amount, wealth.get(c));
        add(wealth, c, -paid); gain(paid); add(debt, c, amount - paid);
        if (full(c) && debt.get(c) > 0) { status.set(c, 2); noCouncillor(c); }
    }

    private int put(int d, int a, int w, int v, int s) {
        deme.add(d); age.add(a); wealth.add(w); view.add(v); status.add(s);
        debt.add(0); barred.add(0); seated.add(0); burden.add(0); due.add(-1);
        return deme.size() - 1;
    }

    // ---------------------------------------------------------------- 1
    public int enroll(int d, int a, int w, int v) {
        argument(in(d, 0, 7) && in(a, 18, 70) && in(w, 0, 300) && in(v, 0, 15));
        state(deme.size() < 40);
        List<Integer> members = those(c -> full(c) && deme.get(c) == d);
        long f = members.stream().filter(c -> agree(c, v)).count();
        return put(d, a, w, v, members.isEmpty() || f * 2 > members.size() ? 1 : 0);
    }

    public int found(int many, int seed) {
        argument(in(many, 1, 40) && in(seed, 0, 99));
        state(deme.size() + many <= 40);
        for (int k = 0; k < many; k++)
            put(k % 8, 20 + (7 * k + seed) % 45, (31 * k + 11 * seed) % 150, (5 * k + seed) % 16, 1);
        return deme.size();
    }

    public int purge(int d) {
        index(in(d, 0, 7));
        List<Integer> members = those(c -> full(c) && deme.get(c) == d);
        List<Integer> bad = members.stream().filter(c -> {
            List<Integer> others = members.stream().filter(o -> !o.equals(c)).collect(Collectors.toList());
            long f = others.stream().filter(o -> agree(o, view.get(c))).count();
            return !others.isEmpty() && f < others.size() / 2.0;
        }).collect(Collectors.toList());
        for (int c : bad) become(c, 0);
        return bad.size();
    }

    public boolean appeal(int c) {
        index(is(c));
        state(status.get(c) == 0 && people);
        summon(1, c, c);
        if (majority(view.get(c))) status.set(c, debt.get(c) > 0 ? 2 : 1);
        else become(c, 5);
        return full(c);
    }

    public int pay(int c) {
        index(is(c));
        state(status.get(c) != 4 && status.get(c) != 5);
        int p = Math.min(debt.get(c), wealth.get(c));
        add(debt, c, -p); add(wealth, c, -p); gain(p);
        if (status.get(c) == 2 && debt.get(c) == 0) status.set(c, 1);
        return p;
    }

    public int ofCitizen(int c, int what) {
        index(is(c));
        argument(in(what, 0, 12));
        int office = -1;
        for (int o = 0; o < 7; o++) if (holder[o] == c) office = o;
        int[] all = {deme.get(c), tribe(c), age.get(c), view.get(c), wealth.get(c), cls(c), status.get(c),
            debt.get(c), barred.get(c), seated.get(c), office, boule.contains(c) ? 1 : 0, burden.get(c)};
        return all[what];
    }

    // ---------------------------------------------------------------- 2
    private void newCouncil() {
        boule = new TreeSet<>(); chair = -1;
        for (int t = 0; t < 4; t++) {
            int tr = t;
            boule.addAll(machine(those(c -> full(c) && tribe(c) == tr && !isBarred(c) && age.get(c) >= 30
                && ofCitizen(c, 10) == -1 && seated.get(c) < 2), 1));
        }
        for (int c : boule) add(seated, c, 1);
        List<Integer> rest = new ArrayList<>(List.of(0, 1, 2, 3));
        order = new ArrayList<>();
        while (rest.size() > 1) order.add(rest.remove(draw(rest.size())));
        order.add(rest.get(0));
    }

    private List<Integer> prytanes() {
        return those(c -> boule.contains(c) && tribe(c) == council(3));
    }

    private void newChair() {
        chair = -1;
        if (!people) return;
        List<Integer> can = prytanes();
        can.removeAll(chairedNow);
        if (!can.isEmpty()) { chair = can.get(draw(can.size())); chairedNow.add(chair); }
    }

    public int seat() {
        state(boule.isEmpty() && people);
        newCouncil(); newChair();
        return boule.size();
    }

    public int council(int what) {
        argument(in(what, 0, 4));
        switch (what) {
            case 0: return boule.size();
            case 1: return prytanes().size();
            case 2: return chair;
            case 3: return order.isEmpty() ? -1 : order.get(city(2));
            default: return boule.stream().mapToInt(c -> 1 << tribe(c)).reduce(0, (a, b) -> a | b);
        }
    }

    // ---------------------------------------------------------------- 3
    public int move(int c, int kind, int topic, int lean, int amount) {
        index(is(c));
        argument(in(kind, 0, 5) && in(topic, 0, 7) && in(lean, 0, 15) && in(amount, 0, 300));
        state(full(c) && !isBarred(c) && agenda.size() < 8 && people);
        if (boule.stream().filter(b -> agree(b, lean)).count() < boule.size() / 2.0) return -2;
        agenda.add(new int[] {c, kind, topic, lean, amount});
        return agenda.size() - 1;
    }

    public int amend(int m, int lean) {
        index(in(m, 0, agenda.size() - 1));
        int old = agenda.get(m)[3];
        argument(in(lean, 0, 15) && in(lean, old - 3, old + 3));
        agenda.get(m)[3] = lean;
        return old;
    }

    private List<Integer> present() { return those(c -> full(c) && (c + day) % 4 != 0); }

    private int votes(int[] m, List<Integer> present, int fulls) {
        int f = (int) present.stream().filter(c -> agree(c, m[3])).count(), p = present.size();
        boolean passes = m[1] == 4 ? 3 * f >= 2 * p && 10 * p >= 6 * fulls : f > p / 2.0;
        return passes ? f : -1;
    }

    public int assembly() {
        state(chair != -1 && assemblyDay != day && people);
        assemblyDay = day;
        List<Integer> present = present();
        int fulls = fulls().size(), set = 0;
        cost(present.size() / 4);
        for (int k = 0; k < agenda.size(); k++) {
            if (votes(agenda.get(k), present, fulls) >= 0) { set += 1 << k; execute(agenda.get(k)); }
        }
        agenda.clear();
        return set;
    }

    private void execute(int[] m) {
        if (m[1] == 0) {
            decrees.add(new int[] {m[0], m[2], m[3], day, nextDecree++, 0, 0});
            if (decrees.size() == 13) decrees.remove(0);
        } else if (m[1] == 1) {
            summon(1, -1, -1);
            if (majority(m[3])) laws[m[2]] = m[3];
        } else if (m[1] == 2 && treasury >= m[4]) {
            purse += cost(m[4]);
        } else if (m[1] == 3 && treasury >= m[4]) {
            chest += cost(m[4]);
        } else if (m[1] == 4) {
            if (is(m[4]) && status.get(m[4]) == 3) status.set(m[4], 1);
        } else if (m[1] == 5 && war < 0) {
            war = m[4];
        }
    }

    /** Asked anew each time, and of each later one likewise, as the document words it. */
    private boolean holds(int k) {
        int[] d = decrees.get(k);
        if (d[5] == 1) return false;
        for (int[] s : suits) if (s[5] == d[4]) return false;
        if (laws[d[1]] != null && Math.abs(laws[d[1]] - d[2]) > 6) return false;
        for (int l = k + 1; l < decrees.size(); l++) if (decrees.get(l)[1] == d[1] && holds(l)) return false;
        return true;
    }

    public int ofDecree(int k, int what) {
        index(in(k, 0, decrees.size() - 1));
        argument(in(what, 0, 4));
        return what == 4 ? (holds(k) ? 1 : 0) : decrees.get(k)[what];
    }

    public int law(int topic) { index(in(topic, 0, 7)); return laws[topic] == null ? -1 : laws[topic]; }

    public int would(int m) {
        index(in(m, 0, agenda.size() - 1));
        return votes(agenda.get(m), present(), fulls().size());
    }

    // ---------------------------------------------------------------- 4
    private boolean fit(int c, int o) {
        boolean fit = full(c) && !isBarred(c) && age.get(c) >= 30;
        for (int h : holder) fit &= h != c;
        if (o == 1) fit &= cls(c) == 3;
        if (o >= 3) fit &= cls(c) >= 1 && tribe(c) == o - 3;
        return fit;
    }

    public int stand(int c, int o) {
        index(is(c) && in(o, 0, 6));
        state(fit(c, o) && candidates.get(o).size() < 6 && !candidates.get(o).contains(c) && holder[o] == -1);
        candidates.get(o).add(c);
        return candidates.get(o).size();
    }

    public int fill(int o) {
        index(in(o, 0, 6));
        state(holder[o] == -1 && people);
        List<Integer> list = candidates.get(o);
        while (!list.isEmpty()) {
            int at = 0;
            if (o < 3) at = draw(list.size());
            else for (int k = 1; k < list.size(); k++)
                if (fullsFor(view.get(list.get(k))) > fullsFor(view.get(list.get(at)))) at = k;
            int c = list.remove(at);
            long f = boule.stream().filter(b -> agree(b, view.get(c))).count();
            if (fit(c, o) && !boule.contains(c) && (boule.isEmpty() || f * 2 > boule.size())) {
                holder[o] = c; since[o] = day; mark[o] = in + out;
                list.clear();
                return c;
            }
        }
        return -1;
    }

    public int ofOffice(int o, int what) {
        index(in(o, 0, 6));
        argument(in(what, 0, 3));
        if (what == 0) return holder[o];
        if (what == 1) return candidates.get(o).size();
        if (what == 2) return holder[o] == -1 ? -1 : since[o];
        return holder[o] == -1 ? 0 : o == 1 ? in + out - mark[o] : day - since[o];
    }

    private void leave(int o) {
        int c = holder[o], handled = ofOffice(o, 3);
        holder[o] = -1;
        due.set(c, day + 10);
        if (draw(8) == 0) fine(c, handled / 10);
    }

    // ---------------------------------------------------------------- 5, 6, 7
    private void summon(int rows, int not, int nor) {
        latestJury = new ArrayList<>();
        for (int t = 0; t < 4; t++) {
            int tr = t;
            latestJury.addAll(machine(those(c -> full(c) && age.get(c) >= 30 && tribe(c) == tr && c != not && c != nor), rows));
        }
        if (treasury < latestJury.size()) unrest++;
        cost(latestJury.size());
    }

    private boolean majority(int lean) {
        latestFor = (int) latestJury.stream().filter(c -> agree(c, lean)).count();
        return latestFor > latestJury.size() / 2.0;
    }

    public int sue(int a, int b, int kind, int amount, int proof) {
        index(is(a) && is(b));
        argument(a != b && (kind == 0 || kind == 1 || kind == 3) && in(amount, 1, 200) && in(proof, 0, 15));
        state(full(a) && !isBarred(a) && !gone(b) && (kind != 3 || due.get(b) >= day) && suits.size() < 8
            && (kind != 1 || day > amnestyEnd));
        suits.add(new int[] {a, b, kind, amount, proof, -1, 0});
        return suits.size() - 1;
    }

    public int challenge(int a, int k, int amount) {
        index(is(a) && in(k, 0, decrees.size() - 1));
        int[] d = decrees.get(k);
        argument(a != d[0] && in(amount, 1, 200));
        state(full(a) && !isBarred(a) && d[3] + 40 >= day && d[6] == 0 && !gone(d[0]) && suits.size() < 8 && d[3] > oath);
        d[6] = 1;
        suits.add(new int[] {a, d[0], 2, amount, laws[d[1]] != null ? laws[d[1]] : (d[2] + 8) % 16, d[4], 0});
        return suits.size() - 1;
    }

    private void transfer(int from, int to, int amount) {
        int p = Math.min(amount, wealth.get(from));
        add(wealth, from, -p); add(wealth, to, p);
    }

    public int arbitrate(int k) {
        index(in(k, 0, suits.size() - 1));
        int[] s = suits.get(k);
        state(s[2] == 0 && s[3] <= 50 && s[6] == 0);
        List<Integer> can = those(c -> full(c) && age.get(c) == 59 && c != s[0] && c != s[1]);
        if (can.isEmpty()) return -1;
        s[6] = 1;
        boolean accuser = agree(can.get(draw(can.size())), s[4]);
        if (view.get(accuser ? s[1] : s[0]) % 2 == 1) return 0;
        suits.remove(k);
        if (accuser) transfer(s[1], s[0], s[3]);
        return accuser ? 1 : 2;
    }

    private static int water(int[] s) { return s[2] == 0 ? 4 + s[3] / 10 : 20; }

    public int court() {
        state(courtDay != day && people);
        courtDay = day;
        int water = 60, tried = 0;
        while (!suits.isEmpty()) {
            int[] s = suits.get(0);
            if (gone(s[0]) || gone(s[1]) || s[2] == 2 && decrees.stream().noneMatch(d -> d[4] == s[5])) {
                suits.remove(0); dropped++; continue;
            }
            if (water(s) > water) break;
            water -= water(s);
            suits.remove(0);
            tried++;
            summon(s[2] == 0 ? 1 : 2, s[0], s[1]);
            if (majority(s[4])) { won++; convict(s); } else { lost++; acquit(s); }
        }
        return tried;
    }

    private void convict(int[] s) {
        switch (s[2]) {
            case 0: transfer(s[1], s[0], s[3]); break;
            case 2:
                for (int[] d : decrees) if (d[4] == s[5]) d[5] = 1;
                fine(s[1], s[3] / 2);
                barred.set(s[1], day + 40);
                break;
            default:
                long near = latestJury.stream().filter(c -> Math.abs(view.get(c) - s[4]) <= 2).count();
                fine(s[1], near > latestJury.size() / 2.0 ? s[3] : (s[3] + 3) / 4);
                if (s[2] == 3) due.set(s[1], -1);
        }
    }

    private void acquit(int[] s) {
        if (s[2] == 0 || latestFor >= latestJury.size() / 5.0) return;
        fine(s[0], 10);
        barred.set(s[0], day + 40);
    }

    public int ofSuit(int k, int what) {
        index(in(k, 0, suits.size() - 1));
        argument(in(what, 0, 6));
        int[] s = suits.get(k);
        return what == 5 ? water(s) : s[what];
    }

    public int jury(int what) {
        argument(in(what, 0, 6));
        int set = 0;
        for (int c : latestJury) set |= 1 << tribe(c);
        return new int[] {latestJury.size(), latestFor, set, won, lost, dropped, suits.size()}[what];
    }

    // ---------------------------------------------------------------- 8
    public int lease(int c, int l, int r) {
        index(is(c) && in(l, 0, 2));
        argument(in(r, 1, 100) && r > rent[l]);
        state(full(c));
        int before = leaseOf[l];
        leaseOf[l] = c; rent[l] = r;
        return before;
    }

    public int ally(int tribute, int might) {
        argument(in(tribute, 1, 60) && in(might, 1, 99));
        state(allies.size() < 4);
        allies.add(new int[] {tribute, might});
        return allies.size();
    }

    public int money(int what) {
        argument(in(what, 0, 8));
        return new int[] {treasury, chest, purse, rent[0] + rent[1] + rent[2],
            allies.stream().mapToInt(a -> a[0]).sum(), allies.size(),
            debt.stream().mapToInt(d -> d).sum(), in, out}[what];
    }

    // ---------------------------------------------------------------- 9, 10
    public int claim(int c, int o) {
        index(is(c) && is(o));
        argument(c != o);
        state((full(c) || status.get(c) == 2) && burden.get(c) > 0 && !doneBurden.contains(c) && !claimed.contains(c)
            && full(o) && tribe(o) == tribe(c) && burden.get(o) == 0);
        claimed.add(c);
        int a = wealth.get(c), b = wealth.get(o);
        if (b <= a) return 0;
        if (view.get(o) % 2 == 0) { burden.set(o, burden.get(c)); burden.set(c, 0); return 1; }
        wealth.set(c, b); wealth.set(o, a);
        return 2;
    }

    public int bear(int c) {
        index(is(c));
        state(burden.get(c) > 0 && !doneBurden.contains(c) && (full(c) || status.get(c) == 2));
        doneBurden.add(c);
        int answer = burden.get(c) == 1 ? ++ships : (splendour[tribe(c)] = 10 + 10 * cls(c));
        fine(c, 40);
        return answer;
    }

    private List<Integer> choruses() {
        return IntStream.range(0, 4).filter(t -> splendour[t] > 0).boxed().collect(Collectors.toList());
    }

    public int festival() {
        state(festivalYear != day / 40 && choruses().size() >= 2 && !fulls().isEmpty());
        festivalYear = day / 40;
        int[] rank = new int[4];
        for (int t : choruses()) rank[t] = splendour[t] + purse / 10 / choruses().size() * 5 + draw(20);
        List<Integer> left = fulls(), votes = new ArrayList<>();
        for (int k = Math.min(5, left.size()); k > 0; k--) {
            int j = left.remove(draw(left.size()));
            int best = -1, value = Integer.MIN_VALUE;
            for (int t : choruses()) {
                int v = rank[t] + (tribe(j) == t ? 8 : 0) - Math.abs(view.get(j) - 4 * t);
                if (v > value) { value = v; best = t; }
            }
            votes.add(best);
        }
        List<Integer> opened = votes;
        if (votes.size() == 5) {
            opened = new ArrayList<>();
            for (int n = 5; n >= 3; n--) opened.add(votes.remove(draw(n)));
        }
        int[] count = new int[4];
        for (int v : opened) count[v]++;
        int winner = 0;
        for (int t = 1; t < 4; t++) if (count[t] > count[winner]) winner = t;
        wins[winner]++;
        for (int c : fulls()) if (tribe(c) == winner) add(wealth, c, 1);
        unrest = Math.max(0, unrest - 3);
        purse = 0;
        return winner;
    }

    public int ofTribe(int t, int what) {
        index(in(t, 0, 3));
        argument(in(what, 0, 4));
        return new int[] {those(c -> full(c) && tribe(c) == t).size(),
            those(c -> tribe(c) == t && burden.get(c) > 0 && !doneBurden.contains(c)).size(),
            splendour[t], wins[t], fallen[t]}[what];
    }

    // ---------------------------------------------------------------- 11, 13, 14
    public int sherds() {
        state(sherdYear != day / 40 && city(2) >= 2 && people);
        sherdYear = day / 40;
        List<Integer> present = present();
        if (present.size() < 6 || present.size() * 3 <= fulls().size()) return -1;
        int[] named = new int[40];
        for (int p : present) {
            int best = -1;
            for (int c : fulls()) {
                if (c == p) continue;
                int d = Math.abs(view.get(c) - view.get(p));
                int e = best < 0 ? -1 : Math.abs(view.get(best) - view.get(p));
                if (d > e || d == e && wealth.get(c) > wealth.get(best)) best = c;
            }
            named[best]++;
        }
        int most = 0;
        for (int c = 1; c < 40; c++) if (named[c] > named[most]) most = c;
        if (named[most] * 3 < present.size()) return -1;
        become(most, 3);
        unrest++;
        return most;
    }

    public int levy(int tribes) {
        argument(in(tribes, 1, 15));
        state(war >= 0 && levyDay != day);
        levyDay = day;
        List<Integer> hoplites = new ArrayList<>();
        int rowers = 0, generals = 0;
        for (int t = 0; t < 4; t++) {
            if ((tribes & 1 << t) == 0) continue;
            int tr = t;
            List<Integer> called = those(c -> full(c) && tribe(c) == tr && in(age.get(c), 18, 59));
            for (int c : called) if (cls(c) > 0) hoplites.add(c); else rowers++;
            if (holder[3 + t] != -1) generals++;
        }
        int might = 3 * hoplites.size() + 5 * generals + 10 * Math.min(rowers / 4, ships) + chest / 10;
        chest -= chest / 2;
        int enemy = war + draw(40);
        boolean victory = might > enemy;
        if (victory) { gain(war); unrest = Math.max(0, unrest - 2); war = -1; }
        else { war = Math.max(0, war - 10); unrest += 3; }
        for (int c : hoplites) if (draw(victory ? 16 : 8) == 0) { become(c, 4); fallen[tribe(c)]++; }
        return might - enemy;
    }

    public boolean rise(int lean, boolean isOath) {
        argument(in(lean, 0, 15));
        state(!people);
        if (2 * fullsFor(lean) <= fulls().size()) {
            List<Integer> can = those(c -> full(c) && agree(c, lean));
            if (!can.isEmpty()) become(can.get(draw(can.size())), 3);
            return false;
        }
        people = true;
        unrest = 0;
        for (int t = 0; t < 8; t++) if (laws[t] != null && Math.abs(laws[t] - lean) > 6) laws[t] = null;
        if (isOath) {
            int before = suits.size();
            suits.removeIf(s -> s[2] != 0);
            dropped += before - suits.size();
            for (int c = 0; c < due.size(); c++) due.set(c, -1);
            oath = day; amnestyEnd = day + 40;
        } else {
            for (int r : rulers) if (full(r) || status.get(r) == 2) become(r, 3);
        }
        rulers = new ArrayList<>();
        return true;
    }

    private void peopleRule() {
        if (people) {
            if (unrest < 20) return;
            people = false;
            boule.clear(); chair = -1; agenda.clear();
            Arrays.fill(holder, -1);
            rulers = fulls();
            rulers.sort((a, b) -> wealth.get(b) - wealth.get(a));
            rulers = new ArrayList<>(rulers.subList(0, Math.min(3, rulers.size())));
            return;
        }
        int turn = 0;
        Set<Integer> ruling = new LinkedHashSet<>(rulers);
        for (int c : those(c -> (full(c) || status.get(c) == 2) && cls(c) == 3 && !ruling.contains(c)))
            if (!rulers.isEmpty()) transfer(c, rulers.get(turn++ % rulers.size()), 5);
    }

    private void yearEnds() {
        for (int c = 0; c < deme.size(); c++)
            if (burden.get(c) > 0 && !doneBurden.contains(c) && (full(c) || status.get(c) == 2)) fine(c, 60);
        for (int l = 0; l < 3; l++) if (leaseOf[l] >= 0) fine(leaseOf[l], rent[l]);
        Arrays.fill(leaseOf, -1);
        Arrays.fill(rent, 0);
        for (int o = 0; o < 7; o++) if (holder[o] >= 0) leave(o);
        List<int[]> stay = new ArrayList<>();
        for (int[] a : allies) if (a[1] > 20 + 20 * ships) unrest += 2; else { gain(a[0]); stay.add(a); }
        allies.clear();
        allies.addAll(stay);
    }

    private void yearBegins() {
        for (int c = 0; c < deme.size(); c++) {
            add(age, c, 1);
            if (age.get(c) >= 75) become(c, 4);
        }
        ships = 0;
        Arrays.fill(splendour, 0);
        List<Integer> had = those(c -> burden.get(c) > 0);
        for (int c = 0; c < deme.size(); c++) burden.set(c, 0);
        doneBurden.clear();
        claimed.clear();
        for (int t = 0; t < 4; t++) {
            int tr = t;
            List<Integer> rich = those(c -> full(c) && cls(c) == 3 && tribe(c) == tr && !had.contains(c));
            rich.sort((a, b) -> wealth.get(b) - wealth.get(a));
            for (int k = 0; k < 2 && k < rich.size(); k++) burden.set(rich.get(k), k + 1);
        }
        if (people) newCouncil();
    }

    public int pass(int days) {
        argument(in(days, 1, 40));
        state(day + days <= 400);
        for (int k = 0; k < days; k++) {
            day++;
            boolean prytany = day % 10 == 0, year = day % 40 == 0;
            if (prytany) { chairedNow.clear(); peopleRule(); }
            if (year) { yearEnds(); yearBegins(); }
            if (prytany && !year && people)
                for (int o = 0; o < 7; o++)
                    if (holder[o] >= 0 && 2 * fullsFor(view.get(holder[o])) < fulls().size()) leave(o);
            if (prytany) for (int h : holder) if (h >= 0) cost(2);
            newChair();
        }
        return day;
    }

    public int city(int what) {
        argument(in(what, 0, 14));
        switch (what) {
            case 0: return day;
            case 1: return day / 40;
            case 2: return day % 40 / 10;
            case 3: return luck;
            case 4: return draws;
            case 5: return deme.size();
            case 6: return fulls().size();
            case 7: return unrest;
            case 8: return people ? 1 : 0;
            case 9: return rulers.isEmpty() ? -1 : rulers.get(0);
            case 10: return war;
            case 11: return agenda.size();
            case 12: return decrees.size();
            case 13: return ships;
            default: return present().size();
        }
    }

    public int roll(int s, int least, int t) {
        index(in(t, -1, 3));
        argument(in(s, 0, 5) && in(least, 0, 99));
        return those(c -> status.get(c) == s && age.get(c) >= least && (t < 0 || tribe(c) == t)).size();
    }

    public boolean isSound() {
        boolean sound = those(c -> full(c) && debt.get(c) != 0).isEmpty();
        for (int c : boule) sound &= full(c);
        Set<Integer> seen = new TreeSet<>();
        for (int h : holder) if (h >= 0) sound &= seen.add(h) && (full(h) || status.get(h) == 2);
        sound &= chair < 0 || prytanes().contains(chair);
        int[] holding = new int[8];
        for (int k = 0; k < decrees.size(); k++) if (holds(k)) {
            int t = decrees.get(k)[1];
            sound &= ++holding[t] == 1 && (laws[t] == null || Math.abs(laws[t] - decrees.get(k)[2]) <= 6);
        }
        return sound && treasury == 300 + in - out;
    }

    public int bell() { return ++bells; }

    public String tell(int c) {
        index(is(c));
        int o = ofCitizen(c, 10);
        return c + " of " + deme.get(c) + ": " + WORDS[status.get(c)]
            + (chair == c ? " chair" : boule.contains(c) ? " council" : "") + (o >= 0 ? " office " + o : "");
    }

    public long digest() {
        List<Long> v = new ArrayList<>();
        for (int k = 0; k <= 14; k++) v.add((long) city(k));
        for (int k = 0; k <= 4; k++) v.add((long) council(k));
        for (int k = 0; k <= 8; k++) v.add((long) money(k));
        for (int k = 0; k <= 6; k++) v.add((long) jury(k));
        for (int k = 0; k <= 7; k++) v.add((long) law(k));
        for (int o = 0; o < 7; o++) for (int k = 0; k <= 3; k++) v.add((long) ofOffice(o, k));
        for (int t = 0; t < 4; t++) for (int k = 0; k <= 4; k++) v.add((long) ofTribe(t, k));
        for (int d = 0; d < decrees.size(); d++) for (int k = 0; k <= 4; k++) v.add((long) ofDecree(d, k));
        for (int s = 0; s < suits.size(); s++) for (int k = 0; k <= 6; k++) v.add((long) ofSuit(s, k));
        for (int m = 0; m < agenda.size(); m++) v.add((long) would(m));
        for (int c = 0; c < deme.size(); c++) for (int k = 0; k <= 12; k++) v.add((long) ofCitizen(c, k));
        v.add(isSound() ? 1L : 0L);
        long d = 58261;
        for (long x : v) d = d * 31 + x;
        return d;
    }
}
