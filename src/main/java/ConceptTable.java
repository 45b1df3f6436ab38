/** A table of objects and attributes, its concepts, its base of rules, and the asking of an expert. */
public final class ConceptTable {
    public static final int NONE = -1, BAD = -2, FULL = -3, AGAINST = -4;

    private static final int FIRST_ATTRIBUTES = 6;
    private static final int MOST_ATTRIBUTES = 12;
    private static final int MOST_SETS = 1 << MOST_ATTRIBUTES;
    private static final int MOST_OBJECTS = 20;
    private static final int MOST_CALLS = 512;

    private static final int ABOVE_FROM = 5;

    // All rows are made here, wide enough for every begin(), so that no call makes any.
    private final Table table = new Table();
    private final Neighbours neighbours = new Neighbours();
    private final Inquiry inquiry = new Inquiry();
    private final Family family = new Family();
    private final Base stem = new Base();

    public ConceptTable() {
        table.restart(FIRST_ATTRIBUTES);
        family.restart(FIRST_ATTRIBUTES);
    }

    public int begin(int attributes) {
        if (attributes < 1 || attributes > MOST_ATTRIBUTES) {
            return BAD;
        }
        int objectsBefore = table.size();
        table.restart(attributes);
        family.restart(attributes);
        stem.forget();
        inquiry.forget();
        return objectsBefore;
    }

    public int object(int set) {
        if (!table.isAttributeSet(set)) {
            return BAD;
        }
        if (table.isFull()) {
            return FULL;
        }
        inquiry.stop();
        return addRow(set);
    }

    public int remove(int object) {
        if (!table.isObject(object)) {
            return BAD;
        }
        inquiry.stop();
        int set = table.takeOut(object);
        family.restart(table.attributes());
        for (int i = 0; i < table.size(); i++) {
            family.meetWith(table.row(i));
        }
        stem.forget();
        return set;
    }

    public int common(int objects) {
        return table.isObjectSet(objects) ? table.commonOf(objects) : BAD;
    }

    public int extent(int set) {
        return table.isAttributeSet(set) ? table.extentOf(set) : BAD;
    }

    public int closure(int set) {
        return table.isAttributeSet(set) ? table.closureOf(set) : BAD;
    }

    public int next(int set) {
        return table.isAttributeSet(set) ? table.closedBehind(set) : BAD;
    }

    public int concepts() {
        return family.size();
    }

    public int concept(int i, int what) {
        if (what < 0) {
            return BAD;
        }
        if (i < 0 || i >= family.size()) {
            return NONE;
        }
        family.arrange(table);
        int set = family.member(i);
        switch (what) {
            case 0:
                return set;
            case 1:
                return table.extentOf(set);
            case 2:
                return family.levelOf(set);
            case 3:
                neighbours.findAbove(set, table);
                return neighbours.size();
            case 4:
                neighbours.findBelow(set, table);
                return neighbours.size();
            default:
                neighbours.findAbove(set, table);
                return neighbours.member(what - ABOVE_FROM);
        }
    }

    public int base() {
        return baseRules().size();
    }

    public int rule(int i, int what) {
        if (what < 0 || what > 2) {
            return BAD;
        }
        Rules rules = baseRules();
        if (what == 2) {
            int premise = rules.premise(i);
            return premise == NONE ? NONE : Integer.bitCount(table.extentOf(premise));
        }
        return what == 0 ? rules.premise(i) : rules.conclusion(i);
    }

    public int follows(int set, int n) {
        if (!table.isAttributeSet(set) || n < 0) {
            return BAD;
        }
        return baseRules().leastKeeping(set, n);
    }

    public int holds(int premise, int conclusion) {
        if (!table.isAttributeSet(premise) || !table.isAttributeSet(conclusion)) {
            return BAD;
        }
        return asNumber(Sets.hasAll(table.closureOf(premise), conclusion));
    }

    public int needed(int attribute) {
        return table.isAttribute(attribute) ? asNumber(table.needsAttribute(attribute)) : BAD;
    }

    public int neededObject(int object) {
        return table.isObject(object) ? asNumber(table.needsObject(object)) : BAD;
    }

    public int frequent(int least) {
        int found = 0;
        for (int i = 0; i < family.size(); i++) {
            if (Integer.bitCount(table.extentOf(family.member(i))) >= least) {
                found++;
            }
        }
        return found;
    }

    public int ask() {
        inquiry.start();
        return inquiry.seek(family);
    }

    public int question() {
        return inquiry.asked();
    }

    public int yes() {
        int asked = inquiry.asked();
        if (asked == NONE) {
            return BAD;
        }
        inquiry.agree(table.closureOf(asked));
        return inquiry.seek(family);
    }

    public int no(int set) {
        int asked = inquiry.asked();
        if (asked == NONE || !table.isAttributeSet(set)) {
            return BAD;
        }
        if (!inquiry.isCounterexample(set, table.closureOf(asked))) {
            return AGAINST;
        }
        if (table.isFull()) {
            return FULL;
        }
        int number = addRow(set);
        inquiry.seek(family);
        return number;
    }

    public int accepted(int i, int what) {
        if (what < 0 || what > 1) {
            return BAD;
        }
        Rules rules = inquiry.agreed();
        return what == 0 ? rules.premise(i) : rules.conclusion(i);
    }

    public int count(int what) {
        switch (what) {
            case 0:
                return table.attributes();
            case 1:
                return table.size();
            case 2:
                return inquiry.agreed().size();
            case 3:
                return asNumber(inquiry.isOpen());
            case 4:
                family.arrange(table);
                return family.levelOf(table.allAttributes());
            default:
                return BAD;
        }
    }

    private int addRow(int set) {
        int number = table.append(set);
        family.meetWith(set);
        stem.forget();
        return number;
    }

    private Rules baseRules() {
        stem.build(table, family);
        return stem.rules();
    }

    private static int asNumber(boolean truth) {
        return truth ? 1 : 0;
    }

    /** Sets as numbers, and their ORDER. */
    private static final class Sets {
        static boolean isIndexIn(int[] row, int set) {
            return set >= 0 && set < row.length;
        }

        static int allOf(int members) {
            return (1 << members) - 1;
        }

        static boolean hasAll(int set, int part) {
            return (part & ~set) == 0;
        }

        static boolean hasAllAndMore(int set, int part) {
            return set != part && hasAll(set, part);
        }

        static boolean comesLater(int one, int other) {
            int differing = one ^ other;
            int least = differing & -differing;
            return (one & least) != 0;
        }

        /** The set right behind one in ORDER, NONE behind the last: counting, with attribute 0 as the highest digit. */
        static int rightBehind(int set, int attributes) {
            int rest = set;
            for (int k = attributes - 1; k >= 0; k--) {
                int bit = 1 << k;
                if ((rest & bit) == 0) {
                    return rest | bit;
                }
                rest ^= bit;
            }
            return NONE;
        }
    }

    /** The OBJECTS with their sets, and what can be told of them at once. */
    private static final class Table {
        private final int[] rows = new int[MOST_OBJECTS];
        private int attributes;
        private int size;

        void restart(int newAttributes) {
            attributes = newAttributes;
            size = 0;
        }

        int attributes() {
            return attributes;
        }

        int size() {
            return size;
        }

        boolean isFull() {
            return size >= rows.length;
        }

        int row(int i) {
            return i >= 0 && i < size ? rows[i] : 0;
        }

        int allAttributes() {
            return Sets.allOf(attributes);
        }

        boolean isAttribute(int number) {
            return number >= 0 && number < attributes;
        }

        boolean isObject(int number) {
            return number >= 0 && number < size;
        }

        boolean isAttributeSet(int set) {
            return Sets.hasAll(allAttributes(), set);
        }

        boolean isObjectSet(int set) {
            return Sets.hasAll(Sets.allOf(size), set);
        }

        int append(int set) {
            if (isFull()) {
                return FULL;
            }
            rows[size] = set;
            size++;
            return size - 1;
        }

        int takeOut(int object) {
            if (!isObject(object)) {
                return BAD;
            }
            int set = rows[object];
            for (int i = object + 1; i < size; i++) {
                rows[i - 1] = rows[i];
            }
            size--;
            return set;
        }

        int commonOf(int objects) {
            int set = allAttributes();
            for (int i = 0; i < size; i++) {
                if ((objects & (1 << i)) != 0) {
                    set &= rows[i];
                }
            }
            return set;
        }

        int extentOf(int set) {
            int objects = 0;
            for (int i = 0; i < size; i++) {
                if (Sets.hasAll(rows[i], set)) {
                    objects |= 1 << i;
                }
            }
            return objects;
        }

        int closureOf(int set) {
            int closed = allAttributes();
            for (int i = 0; i < size; i++) {
                if (Sets.hasAll(rows[i], set)) {
                    closed &= rows[i];
                }
            }
            return closed;
        }

        /**
         * The next closed set differs from the given one first at some attribute k, and is then the closure of
         * what comes before k, with k; the greatest k for which that closure brings nothing before k is the one.
         */
        int closedBehind(int set) {
            int before = set;
            for (int k = attributes - 1; k >= 0; k--) {
                int bit = 1 << k;
                if ((before & bit) != 0) {
                    before ^= bit;
                } else {
                    int closed = closureOf(before | bit);
                    if (((closed ^ before) & (bit - 1)) == 0) {
                        return closed;
                    }
                }
            }
            return NONE;
        }

        boolean needsAttribute(int attribute) {
            int own = extentOf(1 << attribute);
            int wider = 0;
            for (int k = 0; k < attributes; k++) {
                if (Sets.hasAllAndMore(extentOf(1 << k), own)) {
                    wider |= 1 << k;
                }
            }
            return extentOf(wider) != own;
        }

        boolean needsObject(int object) {
            int own = row(object);
            int richer = 0;
            for (int i = 0; i < size; i++) {
                if (Sets.hasAllAndMore(rows[i], own)) {
                    richer |= 1 << i;
                }
            }
            return commonOf(richer) != own;
        }
    }

    /**
     * The CLOSED sets. They are what the objects' sets and the set of all attributes have in common among
     * themselves, so one object more only adds its common part with each of them.
     */
    private static final class Family {
        private final int[] members = new int[MOST_SETS];
        /** By set: NONE if it is not closed; its LEVEL once the family is arranged. */
        private final int[] levels = new int[MOST_SETS];
        private int attributes;
        private int size;
        private boolean arranged;

        /** Leaves what stands behind the sets of these attributes as it is: no call looks there. */
        void restart(int newAttributes) {
            attributes = newAttributes;
            size = 0;
            for (int set = 0; set < 1 << attributes; set++) {
                setLevel(set, NONE);
            }
            include(Sets.allOf(attributes));
        }

        void meetWith(int row) {
            int before = size;
            for (int i = 0; i < before; i++) {
                include(members[i] & row);
            }
        }

        private void include(int set) {
            if (!isClosed(set) && size < members.length) {
                setLevel(set, 0);
                members[size] = set;
                size++;
                arranged = false;
            }
        }

        int attributes() {
            return attributes;
        }

        int size() {
            return size;
        }

        int member(int i) {
            return i >= 0 && i < size ? members[i] : NONE;
        }

        boolean isClosed(int set) {
            return levelOf(set) != NONE;
        }

        int levelOf(int set) {
            return Sets.isIndexIn(levels, set) ? levels[set] : NONE;
        }

        private void setLevel(int set, int level) {
            if (Sets.isIndexIn(levels, set)) {
                levels[set] = level;
            }
        }

        /** Puts the members in ORDER and finds their levels, those of the parts of a set before its own. */
        void arrange(Table table) {
            if (arranged) {
                return;
            }
            putInOrder();
            for (int i = 0; i < size; i++) {
                setLevel(members[i], levelFromAbove(members[i], table));
            }
            arranged = true;
        }

        private void putInOrder() {
            int placed = 0;
            int set = 0;
            for (int turn = 0; turn < 1 << attributes && set != NONE; turn++) {
                if (isClosed(set) && placed < size) {
                    members[placed] = set;
                    placed++;
                }
                set = Sets.rightBehind(set, attributes);
            }
        }

        /** Every concept right above a set is the common part of it with some object's set. */
        private int levelFromAbove(int set, Table table) {
            int level = 0;
            for (int i = 0; i < table.size(); i++) {
                int above = set & table.row(i);
                if (above != set) {
                    level = Math.max(level, levelOf(above) + 1);
                }
            }
            return level;
        }
    }

    /** The concepts right above or right below one: those that no other one parts from it, in ORDER. */
    private static final class Neighbours {
        private final int[] found = new int[MOST_OBJECTS];
        private int size;

        int size() {
            return size;
        }

        int member(int i) {
            return i >= 0 && i < size ? found[i] : NONE;
        }

        void findAbove(int set, Table table) {
            size = 0;
            for (int i = 0; i < table.size(); i++) {
                int above = set & table.row(i);
                if (above != set) {
                    offer(above);
                }
            }
        }

        /** Works on what the sets lack, so that the least of them are the greatest of those. */
        void findBelow(int set, Table table) {
            int all = table.allAttributes();
            size = 0;
            for (int k = 0; k < table.attributes(); k++) {
                int bit = 1 << k;
                if ((set & bit) == 0) {
                    offer(all ^ table.closureOf(set | bit));
                }
            }
        }

        private void offer(int set) {
            if (!isPartOfFound(set)) {
                dropPartsOf(set);
                insert(set);
            }
        }

        private boolean isPartOfFound(int set) {
            for (int i = 0; i < size; i++) {
                if (Sets.hasAll(found[i], set)) {
                    return true;
                }
            }
            return false;
        }

        private void dropPartsOf(int set) {
            int kept = 0;
            for (int i = 0; i < size; i++) {
                if (!Sets.hasAll(set, found[i])) {
                    found[kept] = found[i];
                    kept++;
                }
            }
            size = kept;
        }

        private void insert(int set) {
            if (size >= found.length) {
                return;
            }
            int place = size;
            while (place > 0 && Sets.comesLater(found[place - 1], set)) {
                found[place] = found[place - 1];
                place--;
            }
            found[place] = set;
            size++;
        }
    }

    /** A list of rules. */
    private static final class Rules {
        private final int[] premises;
        private final int[] conclusions;
        private int size;

        Rules(int most) {
            int length = Math.max(most, 0);
            premises = new int[length];
            conclusions = new int[length];
        }

        void clear() {
            size = 0;
        }

        /** Refuses a rule beyond its room, which no run within the document's limits reaches. */
        void append(int premise, int conclusion) {
            if (size < premises.length) {
                premises[size] = premise;
                conclusions[size] = conclusion;
                size++;
            }
        }

        int size() {
            return size;
        }

        int premise(int i) {
            return i >= 0 && i < size ? premises[i] : NONE;
        }

        int conclusion(int i) {
            return i >= 0 && i < size ? conclusions[i] : NONE;
        }

        boolean areKeptBy(int set) {
            for (int i = 0; i < size; i++) {
                if (Sets.hasAll(set, premises[i]) && !Sets.hasAll(set, conclusions[i])) {
                    return false;
                }
            }
            return true;
        }

        /** Each pass but the last adds an attribute, so there are no more passes than attributes, and one. */
        int leastKeeping(int start, int most) {
            int set = start;
            for (int pass = 0; pass <= MOST_ATTRIBUTES; pass++) {
                int before = set;
                set = applyOnce(set, Math.min(most, size));
                if (set == before) {
                    break;
                }
            }
            return set;
        }

        private int applyOnce(int start, int used) {
            int set = start;
            for (int i = 0; i < used; i++) {
                if (Sets.hasAll(set, premises[i])) {
                    set |= conclusions[i];
                }
            }
            return set;
        }
    }

    /** THE BASE, made when it is wanted and kept till the objects change. */
    private static final class Base {
        private final Rules rules = new Rules(MOST_SETS);
        /** By set: the closures, joined, of all premises that are a part of it or all of it. */
        private final int[] joined = new int[MOST_SETS];
        private boolean built;

        void forget() {
            built = false;
        }

        Rules rules() {
            return rules;
        }

        /** Goes through all sets in ORDER, in which the parts of a set come before it. */
        void build(Table table, Family family) {
            if (built) {
                return;
            }
            rules.clear();
            int attributes = table.attributes();
            int set = 0;
            for (int turn = 0; turn < 1 << attributes && set != NONE; turn++) {
                int fromParts = joinedOfParts(set, attributes);
                if (!family.isClosed(set) && Sets.hasAll(set, fromParts)) {
                    int closed = table.closureOf(set);
                    rules.append(set, closed);
                    fromParts |= closed;
                }
                setJoined(set, fromParts);
                set = Sets.rightBehind(set, attributes);
            }
            built = true;
        }

        private int joinedOfParts(int set, int attributes) {
            int closures = 0;
            for (int k = 0; k < attributes; k++) {
                int bit = 1 << k;
                if ((set & bit) != 0) {
                    closures |= joinedOf(set ^ bit);
                }
            }
            return closures;
        }

        private int joinedOf(int set) {
            return Sets.isIndexIn(joined, set) ? joined[set] : 0;
        }

        private void setJoined(int set, int closures) {
            if (Sets.isIndexIn(joined, set)) {
                joined[set] = closures;
            }
        }
    }

    /** ASKING: the rules accepted so far and the set that is asked about. */
    private static final class Inquiry {
        private final Rules agreed = new Rules(MOST_CALLS);
        private boolean open;
        private int asked = NONE;

        void forget() {
            agreed.clear();
            stop();
        }

        void stop() {
            open = false;
            asked = NONE;
        }

        void start() {
            agreed.clear();
            open = true;
            asked = 0;
        }

        boolean isOpen() {
            return open;
        }

        int asked() {
            return asked;
        }

        Rules agreed() {
            return agreed;
        }

        void agree(int closed) {
            agreed.append(asked, closed);
        }

        boolean isCounterexample(int set, int closed) {
            return Sets.hasAll(set, asked) && !Sets.hasAll(set, closed) && agreed.areKeptBy(set);
        }

        /**
         * Goes on from the set asked last: the sets before it are closed or break an accepted rule, and an
         * answer, be it a rule or an object more, leaves them so.
         */
        int seek(Family family) {
            int attributes = family.attributes();
            for (int turn = 0; turn < 1 << attributes && asked != NONE; turn++) {
                if (!family.isClosed(asked) && agreed.areKeptBy(asked)) {
                    break;
                }
                asked = Sets.rightBehind(asked, attributes);
            }
            return asked;
        }
    }
}
