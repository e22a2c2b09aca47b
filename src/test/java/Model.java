import java.math.BigInteger;
import java.util.ArrayDeque;
import java.util.ArrayList;
import java.util.Deque;
import java.util.List;

/** The document once more, by the slowest means: whole copies, all subsets, all sequences. */
final class Model {
    private record Entry(int which, int at, int by, int to) { }

    private record State(List<Entry> talk, int hour) { }

    private record Image(State state, List<State> undo) { }

    private record Saying(boolean sound, int worthy, List<Integer> answers) { }

    private String text = "";
    private List<Saying> sayings = new ArrayList<>();
    private List<List<Integer>> people = new ArrayList<>();
    private int old = 3;
    private State state = new State(List.of(), 0);
    private Deque<State> undo = new ArrayDeque<>();
    private final Image[] images = new Image[2];
    private List<int[]> told = new ArrayList<>();
    private long trace = 0;

    // ---- the duchy

    int type(int c) {
        if (c < 0 || c > 255) return -1;
        if (text.length() == 200) return -3;
        text += (char) c;
        return text.length();
    }

    int clear() {
        int had = text.length();
        text = "";
        return had;
    }

    int duchy() {
        List<String> words = new ArrayList<>();
        List<Integer> places = new ArrayList<>();
        java.util.regex.Matcher m = java.util.regex.Pattern.compile("[a-z]+|[0-9]+|;|[^ ]", java.util.regex.Pattern.DOTALL).matcher(text);
        while (m.find()) {
            words.add(m.group());
            places.add(m.start());
        }
        places.add(text.length());
        words.add("END");
        List<Saying> newSayings = new ArrayList<>();
        List<List<Integer>> newPeople = new ArrayList<>();
        int newOld = 0;
        int at = 0;
        int items = 0;
        while (!words.get(at).equals("END")) {
            String head = words.get(at);
            boolean begins = (head.equals("a") || head.equals("z")) && newSayings.size() < 8
                    || head.equals("p") && newPeople.size() < 5 || head.equals("o") && newOld == 0;
            if (!begins) return -10 - places.get(at);
            at++;
            int worth = -1;
            if (!head.equals("p")) {
                boolean good = head.equals("o") ? words.get(at).matches("[1-9]") : words.get(at).matches("[0-9]");
                if (!good) return -10 - places.get(at);
                worth = Integer.parseInt(words.get(at));
                at++;
            }
            List<Integer> list = new ArrayList<>();
            while ((head.equals("a") || head.equals("p")) && list.size() < 8 && words.get(at).matches("[0-7]")) {
                list.add(Integer.parseInt(words.get(at)));
                at++;
            }
            if (!words.get(at).equals(";")) return -10 - places.get(at);
            at++;
            items++;
            if (head.equals("p")) newPeople.add(list);
            else if (head.equals("o")) newOld = worth;
            else newSayings.add(new Saying(head.equals("z"), worth, list));
        }
        sayings = newSayings;
        people = newPeople;
        old = newOld == 0 ? 3 : newOld;
        text = "";
        state = new State(List.of(), 0);
        undo = new ArrayDeque<>();
        images[0] = null;
        images[1] = null;
        told = new ArrayList<>();
        return items;
    }

    private boolean isSaying(int w) {
        return w >= 0 && w < sayings.size();
    }

    private boolean isPerson(int p) {
        return p >= 0 && p < people.size();
    }

    private boolean isSet(int set) {
        return (set & ~((1 << sayings.size()) - 1)) == 0;
    }

    private int bits(List<Integer> numbers) {
        int all = 0;
        for (int n : numbers) if (isSaying(n)) all |= 1 << n;
        return all;
    }

    int saying(int w, int what) {
        if (!isSaying(w) || what < 0 || what > 4) return -1;
        Saying s = sayings.get(w);
        if (what == 0) return s.sound ? 1 : 0;
        if (what == 1) return s.worthy;
        if (what == 2) return bits(s.answers);
        if (what == 4) return (int) state.talk.stream().filter(e -> e.which == w).count();
        int who = 0;
        for (int p = 0; p < people.size(); p++) if (people.get(p).contains(w)) who |= 1 << p;
        return who;
    }

    int person(int p, int what) {
        if (!isPerson(p) || what < 0 || what > 2) return -1;
        if (what == 0) return bits(people.get(p));
        if (what == 2) return (int) state.talk.stream().filter(e -> e.by == p).count();
        int may = 0;
        for (int w = 0; w < sayings.size(); w++) if (wouldSay(p, w, state) >= 0) may |= 1 << w;
        return may;
    }

    /** What it would answer, or -1. */
    private int wouldSay(int p, int w, State s) {
        if (sayings.get(w).sound || !people.get(p).contains(w)) return -1;
        int found = -1;
        for (int i = 0; i < s.talk.size(); i++) {
            Entry e = s.talk.get(i);
            if (s.hour <= e.at + old && sayings.get(w).answers.contains(e.which)) found = i;
        }
        return found;
    }

    int talk(int i, int what) {
        if (i < 0 || i >= state.talk.size() || what < 0 || what > 7) return -1;
        Entry e = state.talk.get(i);
        switch (what) {
            case 0: return e.which;
            case 1: return e.at;
            case 2: return e.by;
            case 3: return e.to;
            case 4: return root(i);
            case 5: return far(i);
            case 6: return isOpen(i) ? 1 : 0;
            default: return state.hour - e.at > old ? 0 : 1;
        }
    }

    private int root(int i) {
        return state.talk.get(i).to < 0 ? i : root(state.talk.get(i).to);
    }

    private int far(int i) {
        return state.talk.get(i).to < 0 ? 0 : 1 + far(state.talk.get(i).to);
    }

    private boolean isOpen(int i) {
        return state.talk.stream().noneMatch(e -> e.to == i);
    }

    // ---- what is done

    private void become(State next) {
        undo.addLast(state);
        if (undo.size() > 12) undo.removeFirst();
        state = next;
    }

    private void add(Entry e) {
        List<Entry> more = new ArrayList<>(state.talk);
        more.add(e);
        become(new State(more, state.hour));
    }

    int hears(int w) {
        if (!isSaying(w) || !sayings.get(w).sound) return -1;
        if (state.talk.size() == 30) return -3;
        add(new Entry(w, state.hour, -9, -9));
        return state.talk.size() - 1;
    }

    int says(int p, int w) {
        if (!isPerson(p) || !isSaying(w) || sayings.get(w).sound) return -1;
        int to = wouldSay(p, w, state);
        if (to < 0) return -2;
        if (state.talk.size() == 30) return -3;
        add(new Entry(w, state.hour, p, to));
        return to;
    }

    int hour() {
        if (state.hour == 99) return -2;
        become(new State(state.talk, state.hour + 1));
        return state.hour;
    }

    int undo() {
        if (undo.isEmpty()) return -2;
        state = undo.removeLast();
        return undo.size();
    }

    int now(int what) {
        int best = -9;
        int sum = 0;
        int size = state.talk.size();
        switch (what) {
            case 0: return state.hour;
            case 1: return size;
            case 2: return there();
            case 3:
                for (int i = 0; i < size; i++) sum += isOpen(i) ? 1 : 0;
                return sum;
            case 4:
                for (int i = size - 1; i >= 0; i--) if (best < 0 || far(i) >= far(best)) best = i;
                return best;
            case 5:
                for (int i = 0; i < size; i++) if (isOpen(i)) best = i;
                return best;
            case 6: return ends();
            case 7: return silent();
            default: return -1;
        }
    }

    private int there() {
        int all = 0;
        for (Entry e : state.talk) if (state.hour - e.at <= old) all |= 1 << e.which;
        return all;
    }

    private int ends() {
        int all = 0;
        boolean[] answered = new boolean[30];
        for (Entry e : state.talk) {
            if (e.to >= 0 && state.talk.get(e.to).to < 0 && !answered[e.to]) {
                answered[e.to] = true;
                all |= 1 << e.by;
            }
        }
        return all;
    }

    private int silent() {
        for (int h = 0; h <= 9; h++) {
            State later = new State(state.talk, state.hour + h);
            boolean any = false;
            for (int p = 0; p < people.size(); p++) {
                for (int w = 0; w < sayings.size(); w++) any |= wouldSay(p, w, later) >= 0;
            }
            if (!any) return h;
        }
        return -9;
    }

    int worth(int i) {
        if (i < 0 || i >= state.talk.size() || state.talk.get(i).to >= 0) return -1;
        int sum = 0;
        for (int k = 0; k < state.talk.size(); k++) if (root(k) == i) sum += sayings.get(state.talk.get(k).which).worthy;
        return sum;
    }

    // ---- what comes to what

    private boolean canBeSaid(int w, int base) {
        return !sayings.get(w).sound && people.stream().anyMatch(p -> p.contains(w)) && (bits(sayings.get(w).answers) & base) != 0;
    }

    int chain(int w, int i) {
        if (!isSaying(w) || i < -1) return -1;
        for (int length = 1; length <= 8; length++) {
            List<Integer> steps = search(w, length, new ArrayList<>(), there());
            if (steps != null) return i == -1 ? length : i < length ? steps.get(i) : -9;
        }
        return -9;
    }

    private List<Integer> search(int w, int length, List<Integer> ahead, int base) {
        if (ahead.size() == length) return ahead.get(length - 1) == w ? ahead : null;
        for (int s = 0; s < sayings.size(); s++) {
            if (ahead.contains(s) || !canBeSaid(s, base)) continue;
            List<Integer> more = new ArrayList<>(ahead);
            more.add(s);
            List<Integer> found = search(w, length, more, base | 1 << s);
            if (found != null) return found;
        }
        return null;
    }

    /** Whether it can be said, sooner or later, by going on saying whatever can be. */
    private int sayableAfter(int base) {
        int said = 0;
        for (int again = 0; again < 20; again++) {
            for (int w = 0; w < sayings.size(); w++) if (canBeSaid(w, base | said)) said |= 1 << w;
        }
        return said;
    }

    private int soundBits() {
        int all = 0;
        for (int w = 0; w < sayings.size(); w++) if (sayings.get(w).sound) all |= 1 << w;
        return all;
    }

    int sounds(int set) {
        if (!isSet(set)) return -1;
        for (int many = 0; many <= 8; many++) {
            for (int heard = 0; heard < 256; heard++) {
                if (Integer.bitCount(heard) != many || (heard & soundBits()) != heard) continue;
                int got = sayableAfter(there() | heard) | soundBits();
                if ((got & set) == set) return heard;
            }
        }
        return -9;
    }

    int began(int set) {
        if (!isSet(set)) return -1;
        int all = 0;
        for (int w = 0; w < sayings.size(); w++) {
            if (sayings.get(w).sound && ((sayableAfter(1 << w) | soundBits()) & set) == set) all |= 1 << w;
        }
        return all;
    }

    int odds(int w, int x, int what) {
        if (!isSaying(w) || x < 0 || x > 10 || what < 0 || what > 1) return -1;
        BigInteger upper = BigInteger.ZERO;
        int many = Integer.bitCount(soundBits());
        for (int heard = 0; heard < 256; heard++) {
            if ((heard & soundBits()) != heard) continue;
            if (((sayableAfter(heard) | heard) & 1 << w) == 0) continue;
            int k = Integer.bitCount(heard);
            upper = upper.add(BigInteger.valueOf(x).pow(k).multiply(BigInteger.valueOf(10 - x).pow(many - k)));
        }
        BigInteger lower = BigInteger.TEN.pow(many);
        BigInteger g = upper.gcd(lower);
        return (what == 0 ? upper : lower).divide(g).intValueExact();
    }

    // ---- what was told

    int tells(int w, int v) {
        if (!isSaying(w) || !isSaying(v) || w == v) return -1;
        if (told.size() == 6) return -3;
        told.add(new int[] {w, v});
        return told.size();
    }

    int forget() {
        int had = told.size();
        told.clear();
        return had;
    }

    int fits() {
        List<Integer> said = new ArrayList<>();
        for (Entry e : state.talk) said.add(e.which);
        for (int[] t : told) {
            int a = said.indexOf(t[0]);
            int b = said.indexOf(t[1]);
            if (a < 0 || b < 0 || a > b) return 0;
        }
        return 1;
    }

    int orders(int set) {
        return isSet(set) ? permute(set, new ArrayList<>()) : -1;
    }

    private int permute(int set, List<Integer> done) {
        if (done.size() == Integer.bitCount(set)) {
            for (int[] t : told) {
                int a = done.indexOf(t[0]);
                int b = done.indexOf(t[1]);
                if (a >= 0 && b >= 0 && a > b) return 0;
            }
            return 1;
        }
        int sum = 0;
        for (int w = 0; w < sayings.size(); w++) {
            if ((set & 1 << w) == 0 || done.contains(w)) continue;
            if (!sayings.get(w).sound && !canBeSaid(w, bits(done))) continue;
            done.add(w);
            sum += permute(set, done);
            done.remove(done.size() - 1);
        }
        return sum;
    }

    // ---- kinds, images

    int mark(int kind, int w) {
        if (!isSaying(w) || kind < 0 || kind > 5) return -1000000;
        int[] above = {-1, 0, 0, 1, 2, 0};
        int[] brackets = {1, 10, 100, 1000, 10000, 100000};
        trace += brackets[kind];
        int up = above[kind] < 0 ? 0 : mark(above[kind], w);
        switch (kind) {
            case 0: return sayings.get(w).worthy;
            case 1: return up + Integer.bitCount(saying(w, 2));
            case 2: return up - saying(w, 4);
            case 3: return up * 2;
            case 4: return up + Integer.bitCount(saying(w, 3));
            default: return up + state.hour;
        }
    }

    int keep(int image) {
        if (image < 0 || image > 1) return -1;
        images[image] = new Image(state, new ArrayList<>(undo));
        return state.hour;
    }

    int back(int image) {
        if (image < 0 || image > 1) return -1;
        if (images[image] == null) return -2;
        state = images[image].state;
        undo = new ArrayDeque<>(images[image].undo);
        return state.hour;
    }

    int count(int what) {
        int[] all = {sayings.size(), people.size(), old, told.size(), undo.size(), text.length()};
        return what < 0 || what >= all.length ? -1 : all[what];
    }

    long trace() {
        return trace;
    }
}
