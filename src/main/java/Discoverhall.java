import java.util.NoSuchElementException;

/** A hall for a lawsuit's papers, as the document's fifty promises describe it. */
public final class Discoverhall {
    private static final int NONE = -1;
    private static final int CUSTODIANS = 6;
    private static final int PEOPLE = 10;
    private static final int TAGS = 6;
    private static final int LAST_DAY = 9999;
    private static final int ALL_READERS = 1023;
    private static final int LONGEST_CHAIN = 4;
    private static final int WIDEST_APART = 9;
    private static final int HIGHEST_LEVEL = 2;
    private static final int LARGEST_SAMPLE = 20;
    private static final int LARGEST_SEED = 2147483646;

    private final Text typed;
    private final Shelf shelf;
    private final Ties ties;
    private final Terms terms;
    private final Tagging tagging;
    private final People people;
    private final Pages pages;
    private final Viewers viewers;
    private final Ranker ranker;

    public Discoverhall() {
        typed = new Text();
        shelf = new Shelf();
        ties = new Ties(shelf);
        terms = new Terms(shelf);
        tagging = new Tagging(shelf);
        people = new People();
        pages = new Pages(shelf, people);
        viewers = new Viewers();
        ranker = new Ranker(shelf);
    }

    // ---- papers ----

    public int type(char sign) throws IllegalArgumentException, IllegalStateException {
        if (sign != ' ' && (sign < 'a' || sign > 'z')) {
            throw new IllegalArgumentException("neither a small letter nor a blank");
        }
        if (typed.isFull()) {
            throw new IllegalStateException("60 signs are typed");
        }
        typed.add(sign);
        return typed.length;
    }

    public int wipe() {
        int signs = typed.length;
        typed.clear();
        return signs;
    }

    public int paper(int custodian, int day, int author, int readers, int whole)
            throws IndexOutOfBoundsException, IllegalArgumentException, UnsupportedOperationException,
            IllegalStateException {
        if (whole != NONE) {
            existing(whole);
        }
        if (!isWithin(custodian, 0, CUSTODIANS - 1) || !isWithin(day, 0, LAST_DAY)
                || !isWithin(author, 0, PEOPLE - 1) || !isWithin(readers, 0, ALL_READERS)) {
            throw new IllegalArgumentException("a number is out of range");
        }
        if (whole != NONE && shelf.chainUpFrom(whole) >= LONGEST_CHAIN) {
            throw new UnsupportedOperationException("the chain would have 5 papers");
        }
        if (shelf.isFull()) {
            throw new IllegalStateException("40 papers were added");
        }
        int number = shelf.add(new Paper(custodian, day, author, readers, whole, typed.copied(), shelf.nothing));
        typed.clear();
        return number;
    }

    public int drop(int paper) throws IndexOutOfBoundsException, UnsupportedOperationException {
        Paper found = existing(paper);
        if (shelf.isHeld(found) || found.isGiven() || shelf.hasPart(paper) || ties.isAnswered(paper)) {
            throw new UnsupportedOperationException("it is held, given, has a part, or is answered");
        }
        found.isGone = true;
        return shelf.countThere();
    }

    public boolean bad(int paper, boolean is) throws IndexOutOfBoundsException {
        Paper found = existing(paper);
        boolean was = found.isBad;
        found.isBad = is;
        return was;
    }

    public int words(int paper) throws IndexOutOfBoundsException {
        return existing(paper).read().wordCount;
    }

    public int family(int paper) throws IndexOutOfBoundsException {
        existing(paper);
        return shelf.countFamily(shelf.headOf(paper));
    }

    public int head(int paper) throws IndexOutOfBoundsException {
        existing(paper);
        return shelf.headOf(paper);
    }

    public int hold(int custodian, int from, int to) throws IllegalArgumentException {
        boolean isEnd = from == NONE && to == NONE;
        boolean isSpan = isWithin(from, 0, LAST_DAY) && isWithin(to, from, LAST_DAY);
        if (!isWithin(custodian, 0, CUSTODIANS - 1) || !(isEnd || isSpan)) {
            throw new IllegalArgumentException("a number is out of range");
        }
        shelf.setHold(custodian, from, to);
        return shelf.countHeld();
    }

    // ---- alike, near, threads ----

    public boolean areAlike(int paper, int other) throws IndexOutOfBoundsException {
        existing(paper);
        existing(other);
        return shelf.areTwins(paper, other);
    }

    public int first(int paper) throws IndexOutOfBoundsException {
        existing(paper);
        return shelf.firstTwinOf(paper);
    }

    public int custodians(int paper) throws IndexOutOfBoundsException {
        existing(paper);
        return shelf.custodianBits(paper);
    }

    public boolean areNear(int paper, int other, int hundredths)
            throws IndexOutOfBoundsException, IllegalArgumentException {
        Paper one = existing(paper);
        Paper two = existing(other);
        checkHundredths(hundredths);
        return ties.isNear(one, two, hundredths);
    }

    public int groups(int hundredths) throws IllegalArgumentException {
        checkHundredths(hundredths);
        return ties.countGroups(hundredths);
    }

    public int answer(int paper, int other)
            throws IndexOutOfBoundsException, IllegalArgumentException, UnsupportedOperationException {
        Paper found = existing(paper);
        existing(other);
        if (other >= paper) {
            throw new IllegalArgumentException("the other paper is not earlier");
        }
        if (found.answered != NONE) {
            throw new UnsupportedOperationException("it answers one already");
        }
        found.answered = other;
        return ties.countThread(paper);
    }

    public boolean includes(int paper, int other) throws IndexOutOfBoundsException {
        existing(paper);
        existing(other);
        return ties.covers(paper, other);
    }

    public int lost(int paper) throws IndexOutOfBoundsException {
        existing(paper);
        return ties.countLost(paper);
    }

    // ---- terms ----

    public int term(char kind, int apart)
            throws IllegalArgumentException, UnsupportedOperationException, IllegalStateException {
        if (!Term.isTypedKind(kind) || !isApartFit(kind, apart)) {
            throw new IllegalArgumentException("there is no such kind, or the number is out of range");
        }
        if (typed.wordCount != Term.wordsAsked(kind)) {
            throw new UnsupportedOperationException("not one word is typed, or two by 'n'");
        }
        if (terms.isFull()) {
            throw new IllegalStateException("there are 8 terms");
        }
        Term added = new Term(kind, NONE, NONE);
        added.ask(typed.copied(), apart);
        typed.clear();
        return terms.add(added);
    }

    public int joined(char kind, int one, int other)
            throws IndexOutOfBoundsException, IllegalArgumentException, IllegalStateException {
        existingTerm(one);
        if (!Term.isOfOneTerm(kind)) {
            existingTerm(other);
        }
        if (!Term.isJoinedKind(kind)) {
            throw new IllegalArgumentException("there is no such kind");
        }
        if (terms.isFull()) {
            throw new IllegalStateException("there are 8 terms");
        }
        return terms.add(new Term(kind, one, Term.isOfOneTerm(kind) ? NONE : other));
    }

    public int revise(int term, int apart)
            throws IndexOutOfBoundsException, IllegalArgumentException, UnsupportedOperationException {
        Term found = existingTerm(term);
        if (!isApartFit(found.kind, apart)) {
            throw new IllegalArgumentException("the number is out of range");
        }
        if (!Term.isTypedKind(found.kind) || typed.wordCount != Term.wordsAsked(found.kind)) {
            throw new UnsupportedOperationException("of another kind, or not so many words are typed");
        }
        found.ask(typed.copied(), apart);
        typed.clear();
        return found.version;
    }

    public int hits(int term, boolean hasFamilies) throws IndexOutOfBoundsException {
        existingTerm(term);
        return terms.countHits(term, hasFamilies);
    }

    public boolean isHit(int term, int paper) throws IndexOutOfBoundsException {
        existingTerm(term);
        return terms.has(term, existing(paper));
    }

    // ---- tags ----

    public int bar(int tag, int other)
            throws IllegalArgumentException, UnsupportedOperationException, IllegalStateException {
        checkTag(tag);
        checkTag(other);
        if (tag == other) {
            throw new IllegalArgumentException("both tags are the same");
        }
        if (tagging.areBarring(tag, other)) {
            throw new UnsupportedOperationException("they bar each other already");
        }
        if (tagging.isFull()) {
            throw new IllegalStateException("there are 6 pairs");
        }
        return tagging.addPair(tag, other);
    }

    public boolean tag(int paper, int tag, boolean has)
            throws IndexOutOfBoundsException, IllegalArgumentException, UnsupportedOperationException {
        Paper found = existing(paper);
        checkTag(tag);
        boolean had = found.hasTag(tag);
        if (has && !had && tagging.isBarredFor(found, tag)) {
            throw new UnsupportedOperationException("the tag is barred by one that it has");
        }
        found.setTag(tag, has);
        return had;
    }

    public int tags(int paper) throws IndexOutOfBoundsException {
        return existing(paper).tagBits;
    }

    public int spread(int tag, char way) throws IllegalArgumentException {
        checkTag(tag);
        if (way != 'f' && way != 'a') {
            throw new IllegalArgumentException("there is no such way");
        }
        return tagging.spreadOver(tag, way == 'f');
    }

    // ---- privilege and giving ----

    public char person(int person, char kind) throws IllegalArgumentException {
        if (!isWithin(person, 0, PEOPLE - 1) || (kind != 'l' && kind != 'o' && kind != '-')) {
            throw new IllegalArgumentException("there is no such person or kind");
        }
        char before = people.kindOf(person);
        people.setKind(person, kind);
        return before;
    }

    public char rule(int paper, char ruling) throws IndexOutOfBoundsException, IllegalArgumentException {
        Paper found = existing(paper);
        if (ruling != 'p' && ruling != 'n' && ruling != '-') {
            throw new IllegalArgumentException("there is no such ruling");
        }
        char before = found.ruling;
        found.ruling = ruling;
        return before;
    }

    public boolean isPrivileged(int paper) throws IndexOutOfBoundsException {
        return people.isShielded(existing(paper));
    }

    public boolean isKept(int paper) throws IndexOutOfBoundsException {
        existing(paper);
        return pages.isWithheld(paper);
    }

    public int give(int tag) throws IllegalArgumentException {
        checkTag(tag);
        return pages.giveFamilies(tag);
    }

    public int number(int paper) throws IndexOutOfBoundsException, NoSuchElementException {
        return givenPage(paper).number;
    }

    public boolean isSlip(int paper) throws IndexOutOfBoundsException, NoSuchElementException {
        return givenPage(paper).isSlip;
    }

    public boolean replace(int paper) throws IndexOutOfBoundsException, UnsupportedOperationException {
        Paper found = openPage(paper);
        found.isSlip = found.isBad || pages.isWithheld(paper);
        return found.isSlip;
    }

    public int claw(int paper) throws IndexOutOfBoundsException, UnsupportedOperationException {
        openPage(paper);
        return pages.lockTwins(paper);
    }

    public int black(int paper) throws IndexOutOfBoundsException, UnsupportedOperationException {
        existing(paper);
        if (typed.wordCount != 1) {
            throw new UnsupportedOperationException("not one word is typed");
        }
        int having = pages.blackOutTwins(paper, typed);
        typed.clear();
        return having;
    }

    public char shown(int paper, int place) throws IndexOutOfBoundsException, NoSuchElementException {
        Paper found = givenPage(paper);
        if (found.isLocked || !isWithin(place, 0, found.read().length - 1)) {
            throw new NoSuchElementException("it is locked, or there is no such place in its text");
        }
        return found.signShown(place);
    }

    // ---- viewers ----

    public int viewer(int level, int until) throws IllegalArgumentException, IllegalStateException {
        if (!isWithin(level, 0, HIGHEST_LEVEL) || !isWithin(until, 0, LAST_DAY)) {
            throw new IllegalArgumentException("a number is out of range");
        }
        if (viewers.isFull()) {
            throw new IllegalStateException("there are 4 viewers");
        }
        return viewers.add(level, until);
    }

    public int level(int paper, int level) throws IndexOutOfBoundsException, IllegalArgumentException {
        Paper found = existing(paper);
        if (!isWithin(level, 0, HIGHEST_LEVEL)) {
            throw new IllegalArgumentException("the level is out of range");
        }
        int before = found.level;
        found.level = level;
        return before;
    }

    public int day(int day) throws IllegalArgumentException {
        if (!isWithin(day, 0, LAST_DAY)) {
            throw new IllegalArgumentException("the day is out of range");
        }
        int before = viewers.today;
        viewers.today = day;
        return before;
    }

    public boolean sees(int viewer, int paper) throws IndexOutOfBoundsException {
        if (!isWithin(viewer, 0, viewers.count - 1)) {
            throw new IndexOutOfBoundsException("there is no such viewer");
        }
        return viewers.canSee(viewer, existing(paper));
    }

    // ---- the ranker and samples ----

    public int teach(int paper, boolean fits) throws IndexOutOfBoundsException, UnsupportedOperationException {
        Paper found = existing(paper);
        if (found.isTaught() || found.isBad) {
            throw new UnsupportedOperationException("it was taught, or is bad");
        }
        found.setTaught(fits);
        return ranker.scoreOf(found);
    }

    public int score(int paper) throws IndexOutOfBoundsException {
        return ranker.scoreOf(existing(paper));
    }

    public int next() throws NoSuchElementException {
        int best = ranker.bestUntaught();
        if (best == NONE) {
            throw new NoSuchElementException("there is none to be taught");
        }
        return best;
    }

    public int sample(int tag, int many, int term, int seed)
            throws IndexOutOfBoundsException, IllegalArgumentException, NoSuchElementException {
        existingTerm(term);
        checkTag(tag);
        if (!isWithin(many, 1, LARGEST_SAMPLE) || !isWithin(seed, 1, LARGEST_SEED)) {
            throw new IllegalArgumentException("a number is out of range");
        }
        if (ranker.gatherWithout(tag) < many) {
            throw new NoSuchElementException("there are not so many");
        }
        return ranker.countSampled(many, seed, terms, term);
    }

    // ---- sums ----

    public long checksum() {
        long sum = 7;
        for (int at = 0; at < shelf.added; at++) {
            Paper found = shelf.at(at);
            if (found != null) {
                sum = 31 * sum + found.read().wordCount;
                sum = 31 * sum + found.tagBits;
                sum = 31 * sum + found.number;
            }
        }
        return sum;
    }

    public float givenShare() throws NoSuchElementException {
        int there = countSome();
        return there == 0 ? 0 : (float) pages.countGiven() / (float) there;
    }

    public double meanWords() throws NoSuchElementException {
        int there = countSome();
        return there == 0 ? 0 : (double) shelf.countWords() / (double) there;
    }

    public boolean isSound() {
        return pages.areNumbersSound() && areViewsSound() && shelf.areFirstsSound() && terms.areJoinsSound();
    }

    // ---- what several calls test ----

    private Paper existing(int paper) {
        Paper found = shelf.at(paper);
        if (found == null) {
            throw new IndexOutOfBoundsException("there is no such paper");
        }
        return found;
    }

    private Term existingTerm(int term) {
        Term found = terms.at(term);
        if (found == null) {
            throw new IndexOutOfBoundsException("there is no such term");
        }
        return found;
    }

    private Paper givenPage(int paper) {
        Paper found = existing(paper);
        if (!found.isGiven()) {
            throw new NoSuchElementException("it was not given");
        }
        return found;
    }

    private Paper openPage(int paper) {
        Paper found = existing(paper);
        if (!found.isGiven() || found.isLocked) {
            throw new UnsupportedOperationException("it was not given, or is locked");
        }
        return found;
    }

    private int countSome() {
        int there = shelf.countThere();
        if (there == 0) {
            throw new NoSuchElementException("there are no papers");
        }
        return there;
    }

    private boolean areViewsSound() {
        for (int at = 0; at < shelf.added; at++) {
            Paper found = shelf.at(at);
            if (found != null && (found.isSlip || found.isLocked) && viewers.canAnySee(found)) {
                return false;
            }
        }
        return true;
    }

    private static void checkHundredths(int hundredths) {
        if (!isWithin(hundredths, 1, 100)) {
            throw new IllegalArgumentException("the hundredths are out of range");
        }
    }

    private static void checkTag(int tag) {
        if (!isWithin(tag, 0, TAGS - 1)) {
            throw new IllegalArgumentException("there is no such tag");
        }
    }

    private static boolean isApartFit(char kind, int apart) {
        return kind != 'n' || isWithin(apart, 1, WIDEST_APART);
    }

    private static boolean isWithin(int value, int least, int most) {
        return value >= least && value <= most;
    }

    /** Signs, with the places of the words that they make. */
    private static final class Text {
        static final int MOST_SIGNS = 60;
        // A blank stands between each two words, so 60 signs hold 30 words at most.
        static final int MOST_WORDS = 30;
        static final boolean WHOLE = true;
        static final boolean BEGINNING = false;

        private final char[] signs = new char[MOST_SIGNS];
        private final int[] starts = new int[MOST_WORDS];
        private final int[] ends = new int[MOST_WORDS];
        private int length;
        private int wordCount;

        boolean isFull() {
            return length >= MOST_SIGNS;
        }

        void add(char sign) {
            if (isFull()) {
                return;
            }
            if (sign != ' ') {
                growWord();
            }
            signs[length] = sign;
            length++;
        }

        private void growWord() {
            if (signAt(length - 1) == ' ' && wordCount < MOST_WORDS) {
                starts[wordCount] = length;
                wordCount++;
            }
            if (wordCount > 0 && wordCount <= MOST_WORDS) {
                ends[wordCount - 1] = length + 1;
            }
        }

        void clear() {
            length = 0;
            wordCount = 0;
        }

        Text copied() {
            Text copy = new Text();
            for (int place = 0; place < length; place++) {
                copy.add(signs[place]);
            }
            return copy;
        }

        char signAt(int place) {
            return place < 0 || place >= length ? ' ' : signs[place];
        }

        /** The word that a place lies in, NONE for a blank. */
        int wordAround(int place) {
            for (int at = 0; at < wordCount && at < MOST_WORDS; at++) {
                if (place >= starts[at] && place < ends[at]) {
                    return at;
                }
            }
            return NONE;
        }

        /** Whether a word is the other text's one, or begins with it if that need not be the whole. */
        boolean isLike(int at, Text other, int otherAt, boolean isWhole) {
            if (at < 0 || at >= wordCount || otherAt < 0 || otherAt >= other.wordCount) {
                return false;
            }
            int from = starts[at];
            int otherFrom = other.starts[otherAt];
            int letters = other.ends[otherAt] - otherFrom;
            int ownLetters = ends[at] - from;
            if (ownLetters < letters || isWhole && ownLetters != letters) {
                return false;
            }
            for (int step = 0; step < letters; step++) {
                if (from + step >= MOST_SIGNS || otherFrom + step >= MOST_SIGNS
                        || signs[from + step] != other.signs[otherFrom + step]) {
                    return false;
                }
            }
            return true;
        }

        boolean hasWord(Text other, int otherAt) {
            return hasWordAhead(wordCount, other, otherAt);
        }

        /** Whether a word is among the first ones. */
        boolean hasWordAhead(int end, Text other, int otherAt) {
            for (int at = 0; at < end; at++) {
                if (isLike(at, other, otherAt, WHOLE)) {
                    return true;
                }
            }
            return false;
        }

        boolean hasBeginning(Text other, int otherAt) {
            for (int at = 0; at < wordCount; at++) {
                if (isLike(at, other, otherAt, BEGINNING)) {
                    return true;
                }
            }
            return false;
        }

        /** Whether both words of a pair stand at two unlike places that are not too far apart. */
        boolean hasPairWithin(Text pair, int apart) {
            for (int at = 0; at < wordCount; at++) {
                for (int beside = 0; beside < wordCount; beside++) {
                    if (beside != at && Math.abs(beside - at) <= apart
                            && isLike(at, pair, 0, WHOLE) && isLike(beside, pair, 1, WHOLE)) {
                        return true;
                    }
                }
            }
            return false;
        }

        boolean hasSameWords(Text other) {
            if (wordCount == 0 || wordCount != other.wordCount) {
                return false;
            }
            for (int at = 0; at < wordCount; at++) {
                if (!isLike(at, other, at, WHOLE)) {
                    return false;
                }
            }
            return true;
        }

        /** Whether it ends with all words of the other text, behind one word at least. */
        boolean endsBehindOwn(Text other) {
            int ahead = wordCount - other.wordCount;
            if (ahead < 1) {
                return false;
            }
            for (int at = 0; at < other.wordCount; at++) {
                if (!isLike(ahead + at, other, at, WHOLE)) {
                    return false;
                }
            }
            return true;
        }

        /** How many unlike shingles there are. */
        int countShingles() {
            int count = 0;
            for (int at = 0; at + 1 < wordCount; at++) {
                if (!hasShingleAhead(at, this, at)) {
                    count++;
                }
            }
            return count;
        }

        /** How many unlike shingles the other text has too. */
        int countSharedShingles(Text other) {
            int count = 0;
            for (int at = 0; at + 1 < wordCount; at++) {
                if (!hasShingleAhead(at, this, at) && other.hasShingleAhead(other.wordCount - 1, this, at)) {
                    count++;
                }
            }
            return count;
        }

        private boolean hasShingleAhead(int end, Text other, int otherAt) {
            for (int at = 0; at < end; at++) {
                if (isLike(at, other, otherAt, WHOLE) && isLike(at + 1, other, otherAt + 1, WHOLE)) {
                    return true;
                }
            }
            return false;
        }
    }

    /** One paper, with all that is told of it, and its page when it is given. */
    private static final class Paper {
        // Twice for fitting ones, once less for others: what a word of a taught paper adds to a score.
        static final int FITTING = 2;
        static final int OTHER = -1;

        private final int custodian;
        private final int day;
        private final int author;
        private final int readers;
        private final int whole;
        private final Text own;
        private final Text nothing;
        private boolean isGone;
        private boolean isBad;
        private int answered = NONE;
        private int tagBits;
        private char ruling = '-';
        private int number;
        private boolean isSlip;
        private boolean isLocked;
        private int blackWords;
        private int level;
        private int weight;

        Paper(int custodian, int day, int author, int readers, int whole, Text own, Text nothing) {
            this.custodian = custodian;
            this.day = day;
            this.author = author;
            this.readers = readers;
            this.whole = whole;
            this.own = own;
            this.nothing = nothing;
        }

        /** The text as it is read by now. */
        Text read() {
            return isBad ? nothing : own;
        }

        boolean isGiven() {
            return number != 0;
        }

        boolean isTaught() {
            return weight != 0;
        }

        void setTaught(boolean fits) {
            weight = fits ? FITTING : OTHER;
        }

        boolean names(int person) {
            return author == person || (readers >> person & 1) == 1;
        }

        boolean hasTag(int tag) {
            return (tagBits >> tag & 1) == 1;
        }

        void setTag(int tag, boolean has) {
            tagBits = has ? tagBits | 1 << tag : tagBits & ~(1 << tag);
        }

        /** Looks at the own text, since a bad paper that is good later must show nothing of the word. */
        void blackOut(Text word) {
            for (int at = 0; at < own.wordCount; at++) {
                if (own.isLike(at, word, 0, Text.WHOLE)) {
                    blackWords |= 1 << at;
                }
            }
        }

        char signShown(int place) {
            if (isSlip) {
                return '!';
            }
            int at = own.wordAround(place);
            boolean isBlack = at != NONE && (blackWords >> at & 1) == 1;
            return isBlack ? '#' : own.signAt(place);
        }
    }

    /** The papers, their families, those that are alike, and the holds that keep them. */
    private static final class Shelf {
        static final int MOST_PAPERS = 40;

        private final Paper[] rows = new Paper[MOST_PAPERS];
        private int added;
        private final Text nothing = new Text();
        private final int[] heldFrom = new int[CUSTODIANS];
        private final int[] heldTo = new int[CUSTODIANS];

        Shelf() {
            for (int custodian = 0; custodian < CUSTODIANS; custodian++) {
                heldFrom[custodian] = NONE;
                heldTo[custodian] = NONE;
            }
        }

        boolean isFull() {
            return added >= MOST_PAPERS;
        }

        int add(Paper paper) {
            if (isFull()) {
                return NONE;
            }
            rows[added] = paper;
            added++;
            return added - 1;
        }

        /** A paper that is there, null if there is no such paper. */
        Paper at(int place) {
            if (place < 0 || place >= added) {
                return null;
            }
            Paper found = rows[place];
            return found == null || found.isGone ? null : found;
        }

        /** A paper that is or was there. */
        Paper everAt(int place) {
            return place < 0 || place >= added ? null : rows[place];
        }

        int countThere() {
            int count = 0;
            for (int place = 0; place < added; place++) {
                if (at(place) != null) {
                    count++;
                }
            }
            return count;
        }

        int countWords() {
            int count = 0;
            for (int place = 0; place < added; place++) {
                Paper found = at(place);
                if (found != null) {
                    count += found.read().wordCount;
                }
            }
            return count;
        }

        /** The paper of which it is a part, NONE for a head. */
        int wholeOf(int place) {
            Paper found = at(place);
            return found == null ? NONE : found.whole;
        }

        int headOf(int place) {
            int head = place;
            for (int step = 0; step < LONGEST_CHAIN && wholeOf(head) != NONE; step++) {
                head = wholeOf(head);
            }
            return head;
        }

        int chainUpFrom(int place) {
            int length = 0;
            for (int up = place; up != NONE && length < LONGEST_CHAIN; up = wholeOf(up)) {
                length++;
            }
            return length;
        }

        boolean hasPart(int place) {
            for (int part = 0; part < added; part++) {
                if (wholeOf(part) == place) {
                    return true;
                }
            }
            return false;
        }

        boolean isOfFamily(int place, int head) {
            return at(place) != null && headOf(place) == head;
        }

        int countFamily(int head) {
            int count = 0;
            for (int place = 0; place < added; place++) {
                if (isOfFamily(place, head)) {
                    count++;
                }
            }
            return count;
        }

        boolean areTwins(int place, int other) {
            Paper one = at(place);
            Paper two = at(other);
            return one != null && two != null && (place == other || one.read().hasSameWords(two.read()));
        }

        int firstTwinOf(int place) {
            for (int other = 0; other < place; other++) {
                if (areTwins(place, other)) {
                    return other;
                }
            }
            return place;
        }

        int custodianBits(int place) {
            int bits = 0;
            for (int other = 0; other < added; other++) {
                Paper found = at(other);
                if (found != null && areTwins(place, other)) {
                    bits |= 1 << found.custodian;
                }
            }
            return bits;
        }

        boolean areFirstsSound() {
            for (int place = 0; place < added; place++) {
                for (int other = 0; other < place; other++) {
                    if (areTwins(place, other) && firstTwinOf(place) != firstTwinOf(other)) {
                        return false;
                    }
                }
            }
            return true;
        }

        /** From NONE to NONE holds no paper, since no day is that. */
        void setHold(int custodian, int from, int to) {
            if (custodian >= 0 && custodian < CUSTODIANS) {
                heldFrom[custodian] = from;
                heldTo[custodian] = to;
            }
        }

        boolean isHeld(Paper paper) {
            int custodian = paper.custodian;
            return custodian >= 0 && custodian < CUSTODIANS
                    && paper.day >= heldFrom[custodian] && paper.day <= heldTo[custodian];
        }

        int countHeld() {
            int count = 0;
            for (int place = 0; place < added; place++) {
                Paper found = at(place);
                if (found != null && isHeld(found)) {
                    count++;
                }
            }
            return count;
        }
    }

    /** How papers hang together: by being near, and by answers. */
    private static final class Ties {
        private final Shelf shelf;
        private final int[] groupOf = new int[Shelf.MOST_PAPERS];

        Ties(Shelf shelf) {
            this.shelf = shelf;
        }

        boolean isNear(Paper one, Paper two, int hundredths) {
            int ofOne = one.read().countShingles();
            int ofTwo = two.read().countShingles();
            if (ofOne == 0 || ofTwo == 0) {
                return false;
            }
            int ofBoth = one.read().countSharedShingles(two.read());
            return 100 * ofBoth >= hundredths * (ofOne + ofTwo - ofBoth);
        }

        int countGroups(int hundredths) {
            int groups = 0;
            for (int place = 0; place < shelf.added && place < groupOf.length; place++) {
                groupOf[place] = place;
                if (shelf.at(place) != null) {
                    groups += 1 - countMerged(place, hundredths);
                }
            }
            return groups;
        }

        /** Merges a paper with the groups ahead of it to which it is near, and tells how many they were. */
        private int countMerged(int place, int hundredths) {
            Paper paper = shelf.at(place);
            int merged = 0;
            for (int other = 0; other < place && place < groupOf.length; other++) {
                Paper found = shelf.at(other);
                if (paper != null && found != null && groupOf[other] != groupOf[place]
                        && isNear(paper, found, hundredths)) {
                    regroup(groupOf[other], groupOf[place]);
                    merged++;
                }
            }
            return merged;
        }

        private void regroup(int from, int to) {
            for (int place = 0; place < shelf.added && place < groupOf.length; place++) {
                if (groupOf[place] == from) {
                    groupOf[place] = to;
                }
            }
        }

        /** The earlier paper that it answers, NONE if none. */
        private int answeredBy(int place) {
            Paper found = shelf.at(place);
            return found == null ? NONE : found.answered;
        }

        boolean isAnswered(int place) {
            for (int other = 0; other < shelf.added; other++) {
                if (answeredBy(other) == place) {
                    return true;
                }
            }
            return false;
        }

        /** Each answers one at most, so a thread has one paper that answers none. */
        private int rootOf(int place) {
            int root = place;
            for (int step = 0; step < Shelf.MOST_PAPERS && answeredBy(root) != NONE; step++) {
                root = answeredBy(root);
            }
            return root;
        }

        private boolean isOfThread(int place, int root) {
            return shelf.at(place) != null && rootOf(place) == root;
        }

        int countThread(int place) {
            int root = rootOf(place);
            int count = 0;
            for (int other = 0; other < shelf.added; other++) {
                if (isOfThread(other, root)) {
                    count++;
                }
            }
            return count;
        }

        /** Whether a paper includes the one that it answers. */
        private boolean coversAnswered(int place) {
            Paper later = shelf.at(place);
            Paper earlier = shelf.at(answeredBy(place));
            return later != null && earlier != null && later.read().endsBehindOwn(earlier.read());
        }

        boolean covers(int place, int other) {
            int reached = place;
            for (int step = 0; step < Shelf.MOST_PAPERS && coversAnswered(reached); step++) {
                reached = answeredBy(reached);
                if (reached == other) {
                    return true;
                }
            }
            return false;
        }

        /** Who includes a paper does so through one that answers it, so those alone are looked at. */
        private boolean isCovered(int place) {
            for (int other = 0; other < shelf.added; other++) {
                if (answeredBy(other) == place && coversAnswered(other)) {
                    return true;
                }
            }
            return false;
        }

        int countLost(int place) {
            int root = rootOf(place);
            int count = 0;
            for (int other = 0; other < shelf.added; other++) {
                if (isOfThread(other, root) && isAnswered(other) && !isCovered(other)) {
                    count++;
                }
            }
            return count;
        }
    }

    /** A term: what is searched, or of which terms it is made. */
    private static final class Term {
        private final char kind;
        private final int one;
        private final int other;
        private Text asked;
        private int apart;
        private int version;

        Term(char kind, int one, int other) {
            this.kind = kind;
            this.one = one;
            this.other = other;
        }

        static boolean isTypedKind(char kind) {
            return kind == 'w' || kind == 'p' || kind == 'n';
        }

        static boolean isJoinedKind(char kind) {
            return kind == 'a' || kind == 'o' || kind == 't';
        }

        /** By 't' the other term has no meaning, so that it need not be there. */
        static boolean isOfOneTerm(char kind) {
            return kind == 't';
        }

        static int wordsAsked(char kind) {
            return kind == 'n' ? 2 : 1;
        }

        void ask(Text words, int wordsApart) {
            asked = words;
            apart = wordsApart;
            version++;
        }

        boolean isIn(Text text) {
            if (asked == null) {
                return false;
            }
            switch (kind) {
                case 'w':
                    return text.hasWord(asked, 0);
                case 'p':
                    return text.hasBeginning(asked, 0);
                default:
                    return text.hasPairWithin(asked, apart);
            }
        }

        boolean join(boolean hasOne, boolean hasOther) {
            switch (kind) {
                case 'a':
                    return hasOne && hasOther;
                case 'o':
                    return hasOne || hasOther;
                default:
                    return !hasOne;
            }
        }
    }

    /** The terms, and which papers they have. */
    private static final class Terms {
        static final int MOST_TERMS = 8;

        private final Shelf shelf;
        private final Term[] rows = new Term[MOST_TERMS];
        private final boolean[] answers = new boolean[MOST_TERMS];
        private final boolean[] reached = new boolean[Shelf.MOST_PAPERS];
        private int count;

        Terms(Shelf shelf) {
            this.shelf = shelf;
        }

        boolean isFull() {
            return count >= MOST_TERMS;
        }

        int add(Term term) {
            if (isFull()) {
                return NONE;
            }
            rows[count] = term;
            count++;
            return count - 1;
        }

        /** Null if there is no such term. */
        Term at(int place) {
            return place < 0 || place >= count ? null : rows[place];
        }

        /** A term is made of earlier ones alone, so one walk up to it answers it. */
        boolean has(int place, Paper paper) {
            for (int step = 0; step <= place && step < count; step++) {
                Term term = at(step);
                answers[step] = term != null && (Term.isTypedKind(term.kind) ? term.isIn(paper.read())
                        : term.join(answerAt(term.one), answerAt(term.other)));
            }
            return answerAt(place);
        }

        private boolean answerAt(int place) {
            return place >= 0 && place < count && answers[place];
        }

        int countHits(int term, boolean hasFamilies) {
            for (int place = 0; place < reached.length; place++) {
                reached[place] = false;
            }
            for (int place = 0; place < shelf.added; place++) {
                Paper found = shelf.at(place);
                if (found != null && has(term, found)) {
                    reach(hasFamilies ? shelf.headOf(place) : place);
                }
            }
            int hits = 0;
            for (int place = 0; place < shelf.added; place++) {
                if (shelf.at(place) != null && wasReached(hasFamilies ? shelf.headOf(place) : place)) {
                    hits++;
                }
            }
            return hits;
        }

        private void reach(int place) {
            if (place >= 0 && place < reached.length) {
                reached[place] = true;
            }
        }

        private boolean wasReached(int place) {
            return place >= 0 && place < reached.length && reached[place];
        }

        boolean areJoinsSound() {
            for (int place = 0; place < shelf.added; place++) {
                Paper paper = shelf.at(place);
                for (int step = 0; paper != null && step < count; step++) {
                    Term term = at(step);
                    if (term != null && !Term.isTypedKind(term.kind)
                            && has(step, paper) != term.join(has(term.one, paper), has(term.other, paper))) {
                        return false;
                    }
                }
            }
            return true;
        }
    }

    /** The pairs of tags that bar each other, and how tags spread. */
    private static final class Tagging {
        static final int MOST_PAIRS = 6;

        private final Shelf shelf;
        private final int[] barredBits = new int[TAGS];
        private int pairs;

        Tagging(Shelf shelf) {
            this.shelf = shelf;
        }

        boolean isFull() {
            return pairs >= MOST_PAIRS;
        }

        private int barredBy(int tag) {
            return tag < 0 || tag >= TAGS ? 0 : barredBits[tag];
        }

        boolean areBarring(int tag, int other) {
            return (barredBy(tag) >> other & 1) == 1;
        }

        int addPair(int tag, int other) {
            if (tag >= 0 && tag < TAGS && other >= 0 && other < TAGS) {
                barredBits[tag] |= 1 << other;
                barredBits[other] |= 1 << tag;
                pairs++;
            }
            return pairs;
        }

        boolean isBarredFor(Paper paper, int tag) {
            return (paper.tagBits & barredBy(tag)) != 0;
        }

        /** One that gets the tag reaches no paper that those who had it ahead did not reach. */
        int spreadOver(int tag, boolean isByFamily) {
            int getting = 0;
            int leftOut = 0;
            for (int place = 0; place < shelf.added; place++) {
                Paper found = shelf.at(place);
                if (found == null || found.hasTag(tag) || !isReached(place, tag, isByFamily)) {
                    continue;
                }
                if (isBarredFor(found, tag)) {
                    leftOut++;
                } else {
                    found.setTag(tag, true);
                    getting++;
                }
            }
            return 100 * getting + leftOut;
        }

        private boolean isReached(int place, int tag, boolean isByFamily) {
            int head = shelf.headOf(place);
            for (int other = 0; other < shelf.added; other++) {
                Paper found = shelf.at(other);
                if (found != null && found.hasTag(tag)
                        && (isByFamily ? shelf.isOfFamily(other, head) : shelf.areTwins(place, other))) {
                    return true;
                }
            }
            return false;
        }
    }

    /** What the people are, and what follows for papers. */
    private static final class People {
        private final char[] kinds = new char[PEOPLE];

        People() {
            for (int person = 0; person < PEOPLE; person++) {
                kinds[person] = '-';
            }
        }

        char kindOf(int person) {
            return person < 0 || person >= PEOPLE ? '-' : kinds[person];
        }

        void setKind(int person, char kind) {
            if (person >= 0 && person < PEOPLE) {
                kinds[person] = kind;
            }
        }

        /** Whether a paper is privileged: a ruling is stronger than the people. */
        boolean isShielded(Paper paper) {
            if (paper.ruling != '-') {
                return paper.ruling == 'p';
            }
            boolean hasLawyer = false;
            for (int person = 0; person < PEOPLE; person++) {
                if (paper.names(person) && kindOf(person) == 'o') {
                    return false;
                }
                hasLawyer |= paper.names(person) && kindOf(person) == 'l';
            }
            return hasLawyer;
        }
    }

    /** The pages that are given, by their numbers. */
    private static final class Pages {
        private final Shelf shelf;
        private final People people;
        private int given;

        Pages(Shelf shelf, People people) {
            this.shelf = shelf;
            this.people = people;
        }

        boolean isWithheld(int place) {
            for (int other = 0; other < shelf.added; other++) {
                Paper found = shelf.at(other);
                if (found != null && shelf.areTwins(place, other) && people.isShielded(found)) {
                    return true;
                }
            }
            return false;
        }

        /** A head is earlier than its parts, so the heads by numbers are the families by first papers. */
        int giveFamilies(int tag) {
            int before = given;
            for (int place = 0; place < shelf.added; place++) {
                if (shelf.isOfFamily(place, place) && isAskedFor(place, tag)) {
                    giveFamily(place);
                }
            }
            return given - before;
        }

        private boolean isAskedFor(int head, int tag) {
            for (int place = 0; place < shelf.added; place++) {
                Paper found = shelf.at(place);
                if (found != null && shelf.isOfFamily(place, head) && found.hasTag(tag) && !found.isBad) {
                    return true;
                }
            }
            return false;
        }

        private void giveFamily(int head) {
            for (int place = 0; place < shelf.added; place++) {
                Paper found = shelf.at(place);
                if (found != null && shelf.isOfFamily(place, head) && !found.isGiven()) {
                    given++;
                    found.number = given;
                    found.isSlip = found.isBad || isWithheld(place);
                }
            }
        }

        int lockTwins(int place) {
            int locked = 0;
            for (int other = 0; other < shelf.added; other++) {
                Paper found = shelf.at(other);
                if (found != null && shelf.areTwins(place, other) && found.isGiven() && !found.isLocked) {
                    found.isLocked = true;
                    locked++;
                }
            }
            return locked;
        }

        int blackOutTwins(int place, Text word) {
            int having = 0;
            for (int other = 0; other < shelf.added; other++) {
                Paper found = shelf.at(other);
                if (found != null && shelf.areTwins(place, other)) {
                    found.blackOut(word);
                    having += found.read().hasWord(word, 0) ? 1 : 0;
                }
            }
            return having;
        }

        int countGiven() {
            int count = 0;
            for (int place = 0; place < shelf.added; place++) {
                Paper found = shelf.at(place);
                if (found != null && found.isGiven()) {
                    count++;
                }
            }
            return count;
        }

        boolean areNumbersSound() {
            for (int place = 0; place < shelf.added; place++) {
                Paper found = shelf.at(place);
                if (found != null && found.isGiven() && isNumberAhead(place, found.number)) {
                    return false;
                }
            }
            return countGiven() == given;
        }

        private boolean isNumberAhead(int end, int number) {
            for (int place = 0; place < end; place++) {
                Paper found = shelf.at(place);
                if (found != null && found.number == number) {
                    return true;
                }
            }
            return false;
        }
    }

    /** The viewers, and the day. */
    private static final class Viewers {
        static final int MOST_VIEWERS = 4;

        private final int[] levels = new int[MOST_VIEWERS];
        private final int[] untils = new int[MOST_VIEWERS];
        private int count;
        private int today;

        boolean isFull() {
            return count >= MOST_VIEWERS;
        }

        int add(int level, int until) {
            if (isFull()) {
                return NONE;
            }
            levels[count] = level;
            untils[count] = until;
            count++;
            return count - 1;
        }

        boolean canSee(int viewer, Paper paper) {
            return viewer >= 0 && viewer < count && paper.isGiven() && !paper.isSlip && !paper.isLocked
                    && paper.level <= levels[viewer] && today <= untils[viewer];
        }

        boolean canAnySee(Paper paper) {
            for (int viewer = 0; viewer < count; viewer++) {
                if (canSee(viewer, paper)) {
                    return true;
                }
            }
            return false;
        }
    }

    /** The ranker, which counts words of taught papers, and the samples. */
    private static final class Ranker {
        private static final long FACTOR = 48271L;
        private static final long MODULUS = 2147483647L;

        private final Shelf shelf;
        private final int[] left = new int[Shelf.MOST_PAPERS];
        private int leftCount;

        Ranker(Shelf shelf) {
            this.shelf = shelf;
        }

        int scoreOf(Paper paper) {
            Text text = paper.read();
            int sum = 0;
            for (int at = 0; at < text.wordCount; at++) {
                if (!text.hasWordAhead(at, text, at)) {
                    sum += weightOf(text, at);
                }
            }
            return sum;
        }

        /** Taught counts stay, so dropped papers count, and bad ones by the text that they had. */
        private int weightOf(Text text, int at) {
            int sum = 0;
            for (int place = 0; place < shelf.added; place++) {
                Paper found = shelf.everAt(place);
                if (found != null && found.isTaught() && found.own.hasWord(text, at)) {
                    sum += found.weight;
                }
            }
            return sum;
        }

        /** NONE if none is left to be taught. */
        int bestUntaught() {
            int best = NONE;
            int greatest = 0;
            for (int place = 0; place < shelf.added; place++) {
                Paper found = shelf.at(place);
                if (found == null || found.isTaught() || found.isBad) {
                    continue;
                }
                int score = scoreOf(found);
                if (best == NONE || score > greatest) {
                    best = place;
                    greatest = score;
                }
            }
            return best;
        }

        /** Lays the papers without a tag ready for a sample, and tells how many they are. */
        int gatherWithout(int tag) {
            leftCount = 0;
            for (int place = 0; place < shelf.added && leftCount < left.length; place++) {
                Paper found = shelf.at(place);
                if (found != null && !found.hasTag(tag)) {
                    left[leftCount] = place;
                    leftCount++;
                }
            }
            return leftCount;
        }

        int countSampled(int many, int seed, Terms terms, int term) {
            long z = seed;
            int having = 0;
            for (int step = 0; step < many && leftCount > 0; step++) {
                z = z * FACTOR % MODULUS;
                Paper found = shelf.at(takeOut((int) (z % leftCount)));
                if (found != null && terms.has(term, found)) {
                    having++;
                }
            }
            return having;
        }

        private int takeOut(int place) {
            if (place < 0 || place >= leftCount) {
                return NONE;
            }
            int taken = left[place];
            leftCount--;
            for (int at = place; at < leftCount; at++) {
                left[at] = left[at + 1];
            }
            return taken;
        }
    }
}
