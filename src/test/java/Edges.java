import java.util.Arrays;
import java.util.function.Supplier;

/** What the tests of edges share: their tables, and checks that many of them make. */
abstract class Edges {
    static final int NONE = ConceptTable.NONE, BAD = ConceptTable.BAD;
    static final int FULL = ConceptTable.FULL, AGAINST = ConceptTable.AGAINST;
    static final int MOST = Integer.MAX_VALUE, LEAST = Integer.MIN_VALUE;
    static final int TWENTY = (1 << 20) - 1;

    /** Twenty objects of twelve attributes whose base has 207 rules. */
    static final int[] MANY_RULES = {
        3948, 1731, 3527, 3702, 3749, 3510, 3866, 2012, 3197, 3414,
        3861, 1591, 1515, 943, 2639, 383, 3769, 473, 3057, 2302};

    interface Call {
        int on(ConceptTable x);
    }

    interface CallOfSet {
        int on(ConceptTable x, int set);
    }

    static ConceptTable table(int attributes, int... sets) {
        ConceptTable x = new ConceptTable();
        x.begin(attributes);
        for (int set : sets) {
            x.object(set);
        }
        return x;
    }

    static ConceptTable alike(int attributes, int set, int objects) {
        int[] sets = new int[objects];
        Arrays.fill(sets, set);
        return table(attributes, sets);
    }

    /** Its closed sets are 0, 4, 12, 3, 7, 31 (in ORDER); its base 16 > 31, 8 > 12, 2 > 3, 1 > 3, 15 > 31. */
    static ConceptTable five() {
        return table(5, 7, 3, 12);
    }

    /** Each object lacks one attribute, so that every set is closed and there is no rule. */
    static ConceptTable everySet(int attributes) {
        ConceptTable x = table(attributes);
        for (int k = 0; k < attributes; k++) {
            x.object(all(attributes) ^ 1 << k);
        }
        return x;
    }

    /** Three attributes, objects 6 and 0, accepted 4 > 6, and the question 2, whether 6 follows. */
    static ConceptTable asking() {
        ConceptTable x = table(3);
        x.ask();
        x.no(6);
        x.no(0);
        x.yes();
        return x;
    }

    /** Three attributes, 20 objects without any, accepted 4 > 7, and the question 2, whether 7 follows. */
    static ConceptTable fullAndAsking() {
        ConceptTable x = alike(3, 0, 20);
        x.ask();
        x.yes();
        return x;
    }

    /** Two attributes, one object that has both, accepted 0 > 3, and ASKING without a question. */
    static ConceptTable nothingToAsk() {
        ConceptTable x = table(2, 3);
        x.ask();
        x.yes();
        return x;
    }

    /** Three attributes, objects 6, 0 and 1, accepted 4 > 6, and no ASKING. */
    static ConceptTable noAskingAnyMore() {
        ConceptTable x = asking();
        x.object(1);
        return x;
    }

    static int all(int attributes) {
        return (1 << attributes) - 1;
    }

    /** Sets with bits beyond so many attributes or objects: each bit alone, with the least one, with all before. */
    static int[] beyond(int members) {
        int[] sets = new int[3 * (32 - members) + 3];
        int made = 0;
        for (int k = members; k < 32; k++) {
            sets[made++] = 1 << k;
            sets[made++] = 1 << k | 1 << k - 1;
            sets[made++] = 1 << k | all(members);
        }
        sets[made++] = -1;
        sets[made++] = MOST;
        sets[made] = LEAST;
        return sets;
    }

    /** Numbers that are none of 0 .. count - 1, those among them whose low bits would be. */
    static int[] notBelow(int count) {
        return new int[] {-1, count, count + 1, 31, 32, 33, 64, -32, -31, LEAST, LEAST + 1, MOST};
    }

    /** That a call of a set of attributes is BAD for bits beyond them, whether there are objects or none. */
    static void badBeyond(Due due, String name, CallOfSet call) {
        for (int n : new int[] {1, 5, 12}) {
            for (int objects : new int[] {0, 3, 20}) {
                ConceptTable x = alike(n, all(n), objects);
                for (int wrong : beyond(n)) {
                    String where = " of " + n + " attributes and " + objects + " objects";
                    due.is(name + "(" + wrong + ")" + where, call.on(x, wrong), BAD);
                }
            }
        }
    }

    static void rows(Due due, String when, ConceptTable x, int... sets) {
        due.is("count(1) " + when, x.count(1), sets.length);
        for (int i = 0; i < sets.length; i++) {
            due.is("set of object " + i + " " + when, x.common(1 << i), sets[i]);
        }
        due.is("no object behind them " + when, x.common(1 << sets.length), BAD);
    }

    static void concepts(Due due, String when, ConceptTable x, int... sets) {
        due.is("concepts() " + when, x.concepts(), sets.length);
        for (int i = 0; i < sets.length; i++) {
            due.is("concept(" + i + ", 0) " + when, x.concept(i, 0), sets[i]);
        }
    }

    static void rules(Due due, String when, ConceptTable x, int[]... rules) {
        due.is("base() " + when, x.base(), rules.length);
        for (int i = 0; i < rules.length; i++) {
            due.is("IF of rule " + i + " " + when, x.rule(i, 0), rules[i][0]);
            due.is("THEN of rule " + i + " " + when, x.rule(i, 1), rules[i][1]);
        }
    }

    static void notAsking(Due due, String when, ConceptTable x) {
        due.is("count(3) " + when, x.count(3), 0);
        due.is("question() " + when, x.question(), NONE);
        due.is("yes() " + when, x.yes(), BAD);
        due.is("no(0) " + when, x.no(0), BAD);
    }

    static void noneAccepted(Due due, String when, ConceptTable x) {
        due.is("count(2) " + when, x.count(2), 0);
        due.is("accepted(0, 0) " + when, x.accepted(0, 0), NONE);
        due.is("accepted(0, 1) " + when, x.accepted(0, 1), NONE);
    }

    /** That the call answers so and leaves all that can be told of the object as it was. */
    static void changesNothing(Due due, String call, Supplier<ConceptTable> maker, Call made, int answer) {
        ConceptTable x = maker.get();
        due.is(call, made.on(x), answer);
        due.same("what is told after " + call, told(x), told(maker.get()));
    }

    /** Likewise, of a new object, with objects, in the midst of asking, full, at its end, and after it. */
    static void changesNothingAnywhere(Due due, String call, Call made, int answer) {
        changesNothing(due, call + " of a new one", ConceptTable::new, made, answer);
        changesNothing(due, call + " of objects", Edges::five, made, answer);
        changesNothing(due, call + " in ASKING", Edges::asking, made, answer);
        changesNothing(due, call + " of a full one in ASKING", Edges::fullAndAsking, made, answer);
        changesNothing(due, call + " without a QUESTION", Edges::nothingToAsk, made, answer);
        changesNothing(due, call + " after ASKING", Edges::noAskingAnyMore, made, answer);
    }

    static String told(ConceptTable x) {
        StringBuilder text = new StringBuilder("counts");
        for (int what = 0; what <= 4; what++) {
            text.append(' ').append(x.count(what));
        }
        text.append(", question ").append(x.question()).append(", objects");
        for (int i = 0; i < x.count(1); i++) {
            text.append(' ').append(x.common(1 << i));
        }
        text.append(", accepted");
        for (int i = 0; i < x.count(2); i++) {
            text.append(' ').append(x.accepted(i, 0)).append('>').append(x.accepted(i, 1));
        }
        text.append(", concepts");
        for (int i = 0; i < x.concepts(); i++) {
            text.append(' ').append(x.concept(i, 0)).append('^').append(x.concept(i, 2));
        }
        text.append(", rules");
        for (int i = 0; i < x.base(); i++) {
            text.append(' ').append(x.rule(i, 0)).append('>').append(x.rule(i, 1));
        }
        return text.toString();
    }
}
