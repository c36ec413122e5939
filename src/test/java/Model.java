import java.util.ArrayList;
import java.util.HashMap;
import java.util.HashSet;
import java.util.List;
import java.util.Map;
import java.util.NoSuchElementException;
import java.util.Objects;
import java.util.Set;
import java.util.TreeSet;

/** The document once more, in the plainest words of the Java library, for comparing long runs with it. */
final class Model {
    private static final class Sheet {
        int custodian;
        int day;
        int whole;
        String text;
        final Set<Integer> people = new HashSet<>();
        final Set<Integer> tags = new TreeSet<>();
        final Set<String> black = new HashSet<>();
        boolean gone;
        boolean bad;
        int answered = -1;
        char ruling = '-';
        int number;
        boolean slip;
        boolean locked;
        int level;
        boolean taught;

        String text() {
            return bad ? "" : text;
        }

        List<String> words() {
            return wordsOf(text());
        }
    }

    private static final class Search {
        char kind;
        List<String> words;
        int apart;
        int version = 1;
        int one;
        int other;
    }

    private String typed = "";
    private final List<Sheet> sheets = new ArrayList<>();
    private final List<Search> searches = new ArrayList<>();
    private final Set<Set<Integer>> bars = new HashSet<>();
    private final Map<Integer, int[]> holds = new HashMap<>();
    private final Map<Integer, Character> kinds = new HashMap<>();
    private final List<int[]> viewers = new ArrayList<>();
    private final Map<String, Integer> fitting = new HashMap<>();
    private final Map<String, Integer> others = new HashMap<>();
    private int today;
    private int given;

    private static List<String> wordsOf(String text) {
        List<String> words = new ArrayList<>();
        for (String word : text.split(" +")) {
            if (!word.isEmpty()) {
                words.add(word);
            }
        }
        return words;
    }

    private Sheet sheet(int paper) {
        if (paper < 0 || paper >= sheets.size() || sheets.get(paper).gone) {
            throw new IndexOutOfBoundsException();
        }
        return sheets.get(paper);
    }

    private Search search(int term) {
        if (term < 0 || term >= searches.size()) {
            throw new IndexOutOfBoundsException();
        }
        return searches.get(term);
    }

    private static void within(int value, int least, int most) {
        if (value < least || value > most) {
            throw new IllegalArgumentException();
        }
    }

    private static void oneOf(char sign, String signs) {
        if (signs.indexOf(sign) < 0) {
            throw new IllegalArgumentException();
        }
    }

    private static void refuse(boolean is) {
        if (is) {
            throw new UnsupportedOperationException();
        }
    }

    private static void full(boolean is) {
        if (is) {
            throw new IllegalStateException();
        }
    }

    private static void absent(boolean is) {
        if (is) {
            throw new NoSuchElementException();
        }
    }

    private List<Integer> there() {
        List<Integer> there = new ArrayList<>();
        for (int i = 0; i < sheets.size(); i++) {
            if (!sheets.get(i).gone) {
                there.add(i);
            }
        }
        return there;
    }

    private interface Pair {
        boolean is(int one, int other);
    }

    /** All that hang together with one by a relation. */
    private Set<Integer> closure(int from, Pair pair) {
        Set<Integer> reached = new TreeSet<>(Set.of(from));
        boolean grew = true;
        while (grew) {
            grew = false;
            for (int i : there()) {
                for (int j : new ArrayList<>(reached)) {
                    if (!reached.contains(i) && (pair.is(i, j) || pair.is(j, i))) {
                        reached.add(i);
                        grew = true;
                    }
                }
            }
        }
        return reached;
    }

    int type(char sign) {
        oneOf(sign, " abcdefghijklmnopqrstuvwxyz");
        full(typed.length() == 60);
        typed += sign;
        return typed.length();
    }

    int wipe() {
        int signs = typed.length();
        typed = "";
        return signs;
    }

    int paper(int custodian, int day, int author, int readers, int whole) {
        if (whole != -1) {
            sheet(whole);
        }
        within(custodian, 0, 5);
        within(day, 0, 9999);
        within(author, 0, 9);
        within(readers, 0, 1023);
        int chain = 1;
        for (int up = whole; up != -1; up = sheet(up).whole) {
            chain++;
        }
        refuse(chain > 4);
        full(sheets.size() == 40);
        Sheet added = new Sheet();
        added.custodian = custodian;
        added.day = day;
        added.whole = whole;
        added.text = typed;
        added.people.add(author);
        for (int person = 0; person < 10; person++) {
            if ((readers & 1 << person) != 0) {
                added.people.add(person);
            }
        }
        sheets.add(added);
        typed = "";
        return sheets.size() - 1;
    }

    private boolean isHeld(Sheet sheet) {
        int[] days = holds.get(sheet.custodian);
        return days != null && sheet.day >= days[0] && sheet.day <= days[1];
    }

    int drop(int paper) {
        Sheet dropped = sheet(paper);
        refuse(isHeld(dropped) || dropped.number > 0);
        for (int i : there()) {
            refuse(sheet(i).whole == paper || sheet(i).answered == paper);
        }
        dropped.gone = true;
        return there().size();
    }

    boolean bad(int paper, boolean is) {
        Sheet told = sheet(paper);
        boolean was = told.bad;
        told.bad = is;
        return was;
    }

    int words(int paper) {
        return sheet(paper).words().size();
    }

    private Set<Integer> familyOf(int paper) {
        return closure(paper, (i, j) -> sheet(i).whole == j);
    }

    int family(int paper) {
        sheet(paper);
        return familyOf(paper).size();
    }

    int head(int paper) {
        sheet(paper);
        return familyOf(paper).iterator().next();
    }

    int hold(int custodian, int from, int to) {
        within(custodian, 0, 5);
        if (from == -1 && to == -1) {
            holds.remove(custodian);
        } else {
            within(from, 0, 9999);
            within(to, from, 9999);
            holds.put(custodian, new int[] {from, to});
        }
        int held = 0;
        for (int i : there()) {
            held += isHeld(sheet(i)) ? 1 : 0;
        }
        return held;
    }

    boolean areAlike(int paper, int other) {
        List<String> words = sheet(paper).words();
        List<String> otherWords = sheet(other).words();
        return paper == other || !words.isEmpty() && words.equals(otherWords);
    }

    private List<Integer> alikeTo(int paper) {
        List<Integer> alike = new ArrayList<>();
        for (int i : there()) {
            if (areAlike(i, paper)) {
                alike.add(i);
            }
        }
        return alike;
    }

    int first(int paper) {
        sheet(paper);
        return alikeTo(paper).get(0);
    }

    int custodians(int paper) {
        sheet(paper);
        int bits = 0;
        for (int i : alikeTo(paper)) {
            bits |= 1 << sheet(i).custodian;
        }
        return bits;
    }

    private Set<String> shingles(int paper) {
        Set<String> shingles = new HashSet<>();
        List<String> words = sheet(paper).words();
        for (int i = 1; i < words.size(); i++) {
            shingles.add(words.get(i - 1) + " " + words.get(i));
        }
        return shingles;
    }

    boolean areNear(int paper, int other, int hundredths) {
        Set<String> one = shingles(paper);
        Set<String> two = shingles(other);
        within(hundredths, 1, 100);
        Set<String> both = new HashSet<>(one);
        both.retainAll(two);
        Set<String> any = new HashSet<>(one);
        any.addAll(two);
        return !one.isEmpty() && !two.isEmpty() && 100 * both.size() >= hundredths * any.size();
    }

    int groups(int hundredths) {
        within(hundredths, 1, 100);
        Set<Set<Integer>> groups = new HashSet<>();
        for (int i : there()) {
            groups.add(closure(i, (a, b) -> areNear(a, b, hundredths)));
        }
        return groups.size();
    }

    private Set<Integer> threadOf(int paper) {
        return closure(paper, (i, j) -> sheet(i).answered == j);
    }

    int answer(int paper, int other) {
        Sheet told = sheet(paper);
        sheet(other);
        within(other, 0, paper - 1);
        refuse(told.answered != -1);
        told.answered = other;
        return threadOf(paper).size();
    }

    boolean includes(int paper, int other) {
        sheet(other);
        int answered = sheet(paper).answered;
        if (answered == -1) {
            return false;
        }
        List<String> own = sheet(paper).words();
        List<String> its = sheet(answered).words();
        boolean ends = own.size() > its.size() && own.subList(own.size() - its.size(), own.size()).equals(its);
        return ends && (answered == other || includes(answered, other));
    }

    int lost(int paper) {
        sheet(paper);
        Set<Integer> thread = threadOf(paper);
        int lost = 0;
        for (int i : thread) {
            boolean included = false;
            boolean answered = false;
            for (int j : thread) {
                included |= j != i && includes(j, i);
                answered |= sheet(j).answered == i;
            }
            lost += answered && !included ? 1 : 0;
        }
        return lost;
    }

    private int takeSearch(Search search) {
        searches.add(search);
        return searches.size() - 1;
    }

    int term(char kind, int apart) {
        oneOf(kind, "wpn");
        if (kind == 'n') {
            within(apart, 1, 9);
        }
        refuse(wordsOf(typed).size() != (kind == 'n' ? 2 : 1));
        full(searches.size() == 8);
        Search added = new Search();
        added.kind = kind;
        added.words = wordsOf(typed);
        added.apart = apart;
        typed = "";
        return takeSearch(added);
    }

    int joined(char kind, int one, int other) {
        search(one);
        if (kind != 't') {
            search(other);
        }
        oneOf(kind, "aot");
        full(searches.size() == 8);
        Search added = new Search();
        added.kind = kind;
        added.one = one;
        added.other = other;
        return takeSearch(added);
    }

    int revise(int term, int apart) {
        Search revised = search(term);
        if (revised.kind == 'n') {
            within(apart, 1, 9);
        }
        refuse("wpn".indexOf(revised.kind) < 0);
        refuse(wordsOf(typed).size() != (revised.kind == 'n' ? 2 : 1));
        revised.words = wordsOf(typed);
        revised.apart = apart;
        revised.version++;
        typed = "";
        return revised.version;
    }

    int hits(int term, boolean hasFamilies) {
        search(term);
        Set<Integer> hits = new HashSet<>();
        for (int i : there()) {
            if (isHit(term, i)) {
                hits.addAll(hasFamilies ? familyOf(i) : Set.of(i));
            }
        }
        return hits.size();
    }

    boolean isHit(int term, int paper) {
        Search search = search(term);
        List<String> words = sheet(paper).words();
        switch (search.kind) {
            case 'w':
                return words.contains(search.words.get(0));
            case 'p':
                return words.stream().anyMatch(word -> word.startsWith(search.words.get(0)));
            case 'a':
                return isHit(search.one, paper) && isHit(search.other, paper);
            case 'o':
                return isHit(search.one, paper) || isHit(search.other, paper);
            case 't':
                return !isHit(search.one, paper);
            default:
                return hasPair(words, search);
        }
    }

    private static boolean hasPair(List<String> words, Search search) {
        for (int i = 0; i < words.size(); i++) {
            for (int j = i + 1; j < words.size() && j - i <= search.apart; j++) {
                List<String> found = List.of(words.get(i), words.get(j));
                List<String> turned = List.of(words.get(j), words.get(i));
                if (search.words.equals(found) || search.words.equals(turned)) {
                    return true;
                }
            }
        }
        return false;
    }

    int bar(int tag, int other) {
        within(tag, 0, 5);
        within(other, 0, 5);
        if (tag == other) {
            throw new IllegalArgumentException();
        }
        refuse(bars.contains(Set.of(tag, other)));
        full(bars.size() == 6);
        bars.add(Set.of(tag, other));
        return bars.size();
    }

    private boolean isBarred(Sheet sheet, int tag) {
        for (int has : sheet.tags) {
            if (has != tag && bars.contains(Set.of(has, tag))) {
                return true;
            }
        }
        return false;
    }

    boolean tag(int paper, int tag, boolean has) {
        Sheet told = sheet(paper);
        within(tag, 0, 5);
        boolean had = told.tags.contains(tag);
        if (has && !had) {
            refuse(isBarred(told, tag));
            told.tags.add(tag);
        }
        if (!has) {
            told.tags.remove(tag);
        }
        return had;
    }

    int tags(int paper) {
        int bits = 0;
        for (int tag : sheet(paper).tags) {
            bits += 1 << tag;
        }
        return bits;
    }

    int spread(int tag, char way) {
        within(tag, 0, 5);
        oneOf(way, "fa");
        Set<Integer> due = new TreeSet<>();
        for (int i : there()) {
            if (sheet(i).tags.contains(tag)) {
                due.addAll(way == 'f' ? familyOf(i) : alikeTo(i));
            }
        }
        due.removeIf(i -> sheet(i).tags.contains(tag));
        int left = 0;
        for (int i : due) {
            if (isBarred(sheet(i), tag)) {
                left++;
            } else {
                sheet(i).tags.add(tag);
            }
        }
        return 100 * (due.size() - left) + left;
    }

    char person(int person, char kind) {
        within(person, 0, 9);
        oneOf(kind, "lo-");
        Character before = kinds.put(person, kind);
        return before == null ? '-' : before;
    }

    char rule(int paper, char ruling) {
        Sheet told = sheet(paper);
        oneOf(ruling, "pn-");
        char before = told.ruling;
        told.ruling = ruling;
        return before;
    }

    boolean isPrivileged(int paper) {
        Sheet asked = sheet(paper);
        Set<Character> named = new HashSet<>();
        for (int person : asked.people) {
            named.add(kinds.getOrDefault(person, '-'));
        }
        return asked.ruling == '-' ? named.contains('l') && !named.contains('o') : asked.ruling == 'p';
    }

    boolean isKept(int paper) {
        sheet(paper);
        return alikeTo(paper).stream().anyMatch(this::isPrivileged);
    }

    int give(int tag) {
        within(tag, 0, 5);
        int before = given;
        for (int i : there()) {
            boolean isAsked = false;
            for (int j : familyOf(i)) {
                isAsked |= sheet(j).tags.contains(tag) && !sheet(j).bad;
            }
            if (sheet(i).whole == -1 && isAsked) {
                familyOf(i).forEach(this::giveOne);
            }
        }
        return given - before;
    }

    private void giveOne(int paper) {
        if (sheet(paper).number == 0) {
            sheet(paper).number = ++given;
            sheet(paper).slip = sheet(paper).bad || isKept(paper);
        }
    }

    int number(int paper) {
        absent(sheet(paper).number == 0);
        return sheet(paper).number;
    }

    boolean isSlip(int paper) {
        number(paper);
        return sheet(paper).slip;
    }

    boolean replace(int paper) {
        Sheet page = sheet(paper);
        refuse(page.number == 0 || page.locked);
        page.slip = page.bad || isKept(paper);
        return page.slip;
    }

    int claw(int paper) {
        refuse(sheet(paper).number == 0 || sheet(paper).locked);
        int locked = 0;
        for (int i : alikeTo(paper)) {
            if (sheet(i).number > 0 && !sheet(i).locked) {
                sheet(i).locked = true;
                locked++;
            }
        }
        return locked;
    }

    int black(int paper) {
        sheet(paper);
        refuse(wordsOf(typed).size() != 1);
        String word = wordsOf(typed).get(0);
        int having = 0;
        for (int i : alikeTo(paper)) {
            sheet(i).black.add(word);
            having += sheet(i).words().contains(word) ? 1 : 0;
        }
        typed = "";
        return having;
    }

    char shown(int paper, int place) {
        Sheet page = sheet(paper);
        String text = page.text();
        absent(page.number == 0 || page.locked || place < 0 || place >= text.length());
        if (page.slip) {
            return '!';
        }
        int from = text.lastIndexOf(' ', place) + 1;
        int to = text.indexOf(' ', place) < 0 ? text.length() : text.indexOf(' ', place);
        boolean isBlack = from <= to && page.black.contains(text.substring(from, to));
        return isBlack ? '#' : text.charAt(place);
    }

    int viewer(int level, int until) {
        within(level, 0, 2);
        within(until, 0, 9999);
        full(viewers.size() == 4);
        viewers.add(new int[] {level, until});
        return viewers.size() - 1;
    }

    int level(int paper, int level) {
        Sheet told = sheet(paper);
        within(level, 0, 2);
        int before = told.level;
        told.level = level;
        return before;
    }

    int day(int day) {
        within(day, 0, 9999);
        int before = today;
        today = day;
        return before;
    }

    boolean sees(int viewer, int paper) {
        Objects.checkIndex(viewer, viewers.size());
        Sheet page = sheet(paper);
        int[] who = viewers.get(viewer);
        return page.number > 0 && !page.slip && !page.locked && page.level <= who[0] && today <= who[1];
    }

    int teach(int paper, boolean fits) {
        Sheet told = sheet(paper);
        refuse(told.taught || told.bad);
        told.taught = true;
        for (String word : new HashSet<>(told.words())) {
            (fits ? fitting : others).merge(word, 1, Integer::sum);
        }
        return score(paper);
    }

    int score(int paper) {
        int score = 0;
        for (String word : new HashSet<>(sheet(paper).words())) {
            score += 2 * fitting.getOrDefault(word, 0) - others.getOrDefault(word, 0);
        }
        return score;
    }

    int next() {
        int best = -1;
        for (int i : there()) {
            if (!sheet(i).taught && !sheet(i).bad && (best == -1 || score(i) > score(best))) {
                best = i;
            }
        }
        absent(best == -1);
        return best;
    }

    int sample(int tag, int many, int term, int seed) {
        search(term);
        within(tag, 0, 5);
        within(many, 1, 20);
        within(seed, 1, 2147483646);
        List<Integer> left = there();
        left.removeIf(i -> sheet(i).tags.contains(tag));
        absent(left.size() < many);
        long z = seed;
        int having = 0;
        for (int i = 0; i < many; i++) {
            z = z * 48271 % 2147483647;
            having += isHit(term, left.remove((int) (z % left.size()))) ? 1 : 0;
        }
        return having;
    }

    long checksum() {
        long sum = 7;
        for (int i : there()) {
            sum = sum * 31 + words(i);
            sum = sum * 31 + tags(i);
            sum = sum * 31 + sheet(i).number;
        }
        return sum;
    }

    float givenShare() {
        absent(there().isEmpty());
        return (float) given / (float) there().size();
    }

    double meanWords() {
        absent(there().isEmpty());
        int sum = 0;
        for (int i : there()) {
            sum += words(i);
        }
        return (double) sum / (double) there().size();
    }

    boolean isSound() {
        return true;
    }
}
