import java.util.ArrayList;
import java.util.HashMap;
import java.util.List;
import java.util.Map;

/** The document word by word, without any care for speed: what ModelTest measures ConceptTable against. */
final class PlainModel {
    private static final int NONE = -1, BAD = -2, FULL = -3, AGAINST = -4;

    private int attributes = 6;
    private final List<Integer> objects = new ArrayList<>();
    private boolean asking = false;
    private final List<int[]> accepted = new ArrayList<>();

    private List<Integer> conceptsKept = null;
    private List<int[]> baseKept = null;
    private final Map<Integer, Integer> levelsKept = new HashMap<>();

    private void changed() {
        conceptsKept = null;
        baseKept = null;
        levelsKept.clear();
    }

    private static boolean isPart(int part, int whole) {
        return (part | whole) == whole;
    }

    private static boolean isPartNotAll(int part, int whole) {
        return part != whole && isPart(part, whole);
    }

    private boolean badSet(int set) {
        return set < 0 || set >= 1 << attributes;
    }

    private boolean badObjects(int set) {
        return set < 0 || set >= 1 << objects.size();
    }

    private boolean comesLater(int one, int other) {
        for (int k = 0; k < attributes; k++) {
            boolean inOne = (one >> k & 1) == 1;
            boolean inOther = (other >> k & 1) == 1;
            if (inOne != inOther) {
                return inOne;
            }
        }
        return false;
    }

    private List<Integer> allSetsInOrder() {
        List<Integer> sets = new ArrayList<>();
        for (int set = 0; set < 1 << attributes; set++) {
            sets.add(set);
        }
        sets.sort((a, b) -> a.equals(b) ? 0 : comesLater(a, b) ? 1 : -1);
        return sets;
    }

    private int commonTo(int objectSet) {
        int set = 0;
        for (int k = 0; k < attributes; k++) {
            boolean all = true;
            for (int g = 0; g < objects.size(); g++) {
                if ((objectSet >> g & 1) == 1 && (objects.get(g) >> k & 1) == 0) {
                    all = false;
                }
            }
            if (all) {
                set += 1 << k;
            }
        }
        return set;
    }

    private int extentOf(int set) {
        int found = 0;
        for (int g = 0; g < objects.size(); g++) {
            if (isPart(set, objects.get(g))) {
                found += 1 << g;
            }
        }
        return found;
    }

    private int closureOf(int set) {
        return commonTo(extentOf(set));
    }

    private boolean isClosed(int set) {
        return closureOf(set) == set;
    }

    private List<Integer> conceptList() {
        if (conceptsKept == null) {
            conceptsKept = new ArrayList<>();
            for (int set : allSetsInOrder()) {
                if (isClosed(set)) {
                    conceptsKept.add(set);
                }
            }
        }
        return conceptsKept;
    }

    private boolean isRightAbove(int one, int other) {
        if (!isPartNotAll(one, other)) {
            return false;
        }
        for (int between : conceptList()) {
            if (isPartNotAll(one, between) && isPartNotAll(between, other)) {
                return false;
            }
        }
        return true;
    }

    private List<Integer> rightAbove(int set) {
        List<Integer> found = new ArrayList<>();
        for (int other : conceptList()) {
            if (isRightAbove(other, set)) {
                found.add(other);
            }
        }
        return found;
    }

    private int level(int set) {
        Integer kept = levelsKept.get(set);
        if (kept != null) {
            return kept;
        }
        int level = 0;
        for (int above : rightAbove(set)) {
            level = Math.max(level, level(above) + 1);
        }
        levelsKept.put(set, level);
        return level;
    }

    private List<int[]> baseList() {
        if (baseKept == null) {
            baseKept = new ArrayList<>();
            for (int set : allSetsInOrder()) {
                boolean premise = !isClosed(set);
                for (int[] rule : baseKept) {
                    if (isPartNotAll(rule[0], set) && !isPart(rule[1], set)) {
                        premise = false;
                    }
                }
                if (premise) {
                    baseKept.add(new int[] {set, closureOf(set)});
                }
            }
        }
        return baseKept;
    }

    private static boolean keeps(int set, int ifSet, int thenSet) {
        return !isPart(ifSet, set) || isPart(thenSet, set);
    }

    private static boolean keepsAll(int set, List<int[]> rules) {
        for (int[] rule : rules) {
            if (!keeps(set, rule[0], rule[1])) {
                return false;
            }
        }
        return true;
    }

    private int theQuestion() {
        if (asking) {
            for (int set : allSetsInOrder()) {
                if (keepsAll(set, accepted) && !isClosed(set)) {
                    return set;
                }
            }
        }
        return NONE;
    }

    int begin(int wanted) {
        if (wanted < 1 || wanted > 12) {
            return BAD;
        }
        int before = objects.size();
        attributes = wanted;
        objects.clear();
        accepted.clear();
        asking = false;
        changed();
        return before;
    }

    int object(int set) {
        if (badSet(set)) {
            return BAD;
        }
        if (objects.size() == 20) {
            return FULL;
        }
        asking = false;
        objects.add(set);
        changed();
        return objects.size() - 1;
    }

    int remove(int object) {
        if (object < 0 || object >= objects.size()) {
            return BAD;
        }
        asking = false;
        changed();
        return objects.remove(object);
    }

    int common(int set) {
        return badObjects(set) ? BAD : commonTo(set);
    }

    int extent(int set) {
        return badSet(set) ? BAD : extentOf(set);
    }

    int closure(int set) {
        return badSet(set) ? BAD : closureOf(set);
    }

    int next(int set) {
        if (badSet(set)) {
            return BAD;
        }
        for (int concept : conceptList()) {
            if (comesLater(concept, set)) {
                return concept;
            }
        }
        return NONE;
    }

    int concepts() {
        return conceptList().size();
    }

    int concept(int i, int what) {
        if (what < 0) {
            return BAD;
        }
        if (i < 0 || i >= conceptList().size()) {
            return NONE;
        }
        int set = conceptList().get(i);
        if (what == 0) {
            return set;
        }
        if (what == 1) {
            return extentOf(set);
        }
        if (what == 2) {
            return level(set);
        }
        List<Integer> above = rightAbove(set);
        if (what == 3) {
            return above.size();
        }
        if (what == 4) {
            int below = 0;
            for (int other : conceptList()) {
                below += isRightAbove(set, other) ? 1 : 0;
            }
            return below;
        }
        return what - 5 < above.size() ? above.get(what - 5) : NONE;
    }

    int base() {
        return baseList().size();
    }

    int rule(int i, int what) {
        if (what < 0 || what > 2) {
            return BAD;
        }
        if (i < 0 || i >= baseList().size()) {
            return NONE;
        }
        int[] rule = baseList().get(i);
        return what < 2 ? rule[what] : Integer.bitCount(extentOf(rule[0]));
    }

    int follows(int set, int n) {
        if (badSet(set) || n < 0) {
            return BAD;
        }
        List<int[]> rules = baseList().subList(0, Math.min(n, baseList().size()));
        int least = (1 << attributes) - 1;
        for (int candidate = 0; candidate < 1 << attributes; candidate++) {
            if (isPart(set, candidate) && keepsAll(candidate, rules)) {
                least &= candidate;
            }
        }
        return least;
    }

    int holds(int premise, int conclusion) {
        if (badSet(premise) || badSet(conclusion)) {
            return BAD;
        }
        for (int set : objects) {
            if (!keeps(set, premise, conclusion)) {
                return 0;
            }
        }
        return 1;
    }

    int needed(int attribute) {
        if (attribute < 0 || attribute >= attributes) {
            return BAD;
        }
        int own = extentOf(1 << attribute);
        int together = (1 << objects.size()) - 1;
        for (int k = 0; k < attributes; k++) {
            if (k != attribute && isPartNotAll(own, extentOf(1 << k))) {
                together &= extentOf(1 << k);
            }
        }
        return own == together ? 0 : 1;
    }

    int neededObject(int object) {
        if (object < 0 || object >= objects.size()) {
            return BAD;
        }
        int own = objects.get(object);
        int together = (1 << attributes) - 1;
        for (int set : objects) {
            if (isPartNotAll(own, set)) {
                together &= set;
            }
        }
        return own == together ? 0 : 1;
    }

    int frequent(int least) {
        int found = 0;
        for (int set : conceptList()) {
            found += Integer.bitCount(extentOf(set)) >= least ? 1 : 0;
        }
        return found;
    }

    int ask() {
        accepted.clear();
        asking = true;
        return theQuestion();
    }

    int question() {
        return theQuestion();
    }

    int yes() {
        int question = theQuestion();
        if (question == NONE) {
            return BAD;
        }
        accepted.add(new int[] {question, closureOf(question)});
        return theQuestion();
    }

    int no(int set) {
        int question = theQuestion();
        if (question == NONE || badSet(set)) {
            return BAD;
        }
        if (!isPart(question, set) || isPart(closureOf(question), set) || !keepsAll(set, accepted)) {
            return AGAINST;
        }
        if (objects.size() == 20) {
            return FULL;
        }
        objects.add(set);
        changed();
        return objects.size() - 1;
    }

    int accepted(int i, int what) {
        if (what < 0 || what > 1) {
            return BAD;
        }
        return i < 0 || i >= accepted.size() ? NONE : accepted.get(i)[what];
    }

    int count(int what) {
        switch (what) {
            case 0:
                return attributes;
            case 1:
                return objects.size();
            case 2:
                return accepted.size();
            case 3:
                return asking ? 1 : 0;
            case 4:
                int greatest = 0;
                for (int set : conceptList()) {
                    greatest = Math.max(greatest, level(set));
                }
                return greatest;
            default:
                return BAD;
        }
    }
}
