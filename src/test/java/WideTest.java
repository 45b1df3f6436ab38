/** Tables at the limits, where the model would be slow: 12 attributes, 20 objects, 4096 concepts. */
public final class WideTest {
    private static final int ALL = 4095;
    private static final Due due = new Due("WideTest");

    public static void main(String[] args) {
        everySetIsAConcept();
        halfOfTheSets();
        aChain();
        usedRowsLeaveNoTrace();
        callsAfterTheLast();
        due.end();
    }

    /** Twelve objects, each lacking one attribute, make every set closed. */
    private static ConceptTable everySet() {
        ConceptTable x = new ConceptTable();
        x.begin(12);
        for (int k = 0; k < 12; k++) {
            due.is("object", x.object(ALL ^ 1 << k), k);
        }
        return x;
    }

    /** The rows of an object serve all its tables, so what a wide one left there must not be seen in the next one. */
    private static void usedRowsLeaveNoTrace() {
        for (int width = 1; width <= 12; width++) {
            ConceptTable used = everySet();
            used.count(4);
            used.remove(0);
            used.base();
            used.begin(width);
            ConceptTable fresh = new ConceptTable();
            fresh.begin(width);
            alike(used, fresh, width);
            used.begin(12);
            fresh.begin(12);
            alike(used, fresh, 12);
        }
    }

    private static void alike(ConceptTable used, ConceptTable fresh, int width) {
        int all = (1 << width) - 1;
        for (int i = 0; i < 4; i++) {
            String at = " at width " + width + " with " + i + " objects";
            due.is("concepts" + at, used.concepts(), fresh.concepts());
            due.is("base" + at, used.base(), fresh.base());
            due.is("greatest level" + at, used.count(4), fresh.count(4));
            due.is("ask" + at, used.ask(), fresh.ask());
            for (int k = 0; k < 9; k++) {
                due.is("set of concept " + k + at, used.concept(k, 0), fresh.concept(k, 0));
                due.is("level of concept " + k + at, used.concept(k, 2), fresh.concept(k, 2));
                due.is("IF of rule " + k + at, used.rule(k, 0), fresh.rule(k, 0));
                due.is("THEN of rule " + k + at, used.rule(k, 1), fresh.rule(k, 1));
                due.is("follows " + k + at, used.follows(k & all, 4), fresh.follows(k & all, 4));
            }
            int row = (1365 + 731 * i) & all;
            due.is("object" + at, used.object(row), fresh.object(row));
        }
    }

    private static int inOrder(int i) {
        return Integer.reverse(i) >>> 20;
    }

    private static void everySetIsAConcept() {
        ConceptTable x = everySet();
        due.is("concepts", x.concepts(), 4096);
        due.is("base", x.base(), 0);
        due.is("ask", x.ask(), ConceptTable.NONE);
        due.is("greatest level", x.count(4), 12);
        due.is("frequent(6)", x.frequent(6), 2510);
        due.is("behind the last", x.concept(4096, 0), ConceptTable.NONE);
        for (int i = 0; i < 4096; i += 13) {
            int set = inOrder(i);
            int size = Integer.bitCount(set);
            due.is("set of " + i, x.concept(i, 0), set);
            due.is("extent of " + i, x.concept(i, 1), ALL ^ set);
            due.is("level of " + i, x.concept(i, 2), size);
            due.is("above " + i, x.concept(i, 3), size);
            due.is("below " + i, x.concept(i, 4), 12 - size);
            due.is("behind " + i, x.next(set), i == 4095 ? ConceptTable.NONE : inOrder(i + 1));
        }
        for (int k = 0; k < 12; k++) {
            due.is("above the last " + k, x.concept(4095, 5 + k), ALL ^ 1 << k);
        }
        due.is("behind those above", x.concept(4095, 17), ConceptTable.NONE);
    }

    /** Without the object that lacks attribute 0, just the sets with that attribute are closed. */
    private static void halfOfTheSets() {
        ConceptTable x = everySet();
        x.remove(0);
        due.is("concepts", x.concepts(), 2048);
        due.is("base", x.base(), 1);
        due.is("IF", x.rule(0, 0), 0);
        due.is("THEN", x.rule(0, 1), 1);
        due.is("ask", x.ask(), 0);
    }

    /** Objects with more and more attributes: twelve steps, one concept each. */
    private static void aChain() {
        ConceptTable x = new ConceptTable();
        x.begin(12);
        for (int i = 0; i < 20; i++) {
            x.object((1 << Math.min(i, 12)) - 1);
        }
        due.is("full", x.object(0), ConceptTable.FULL);
        due.is("concepts", x.concepts(), 13);
        due.is("greatest level", x.count(4), 12);
        due.is("base", x.base(), 11);
        due.is("IF of the first", x.rule(0, 0), 1 << 11);
        due.is("THEN of the first", x.rule(0, 1), ALL);
        due.is("objects of it", x.rule(0, 2), 8);
        due.is("follows", x.follows(1 << 5, 99), (1 << 6) - 1);
        due.is("ask", x.ask(), 1 << 11);
        for (int k = 10; k > 0; k--) {
            due.is("yes", x.yes(), 1 << k);
        }
        due.is("last yes", x.yes(), ConceptTable.NONE);
    }

    /** Nothing is promised of what these answer, but they must answer. */
    private static void callsAfterTheLast() {
        ConceptTable x = new ConceptTable();
        x.begin(12);
        for (int i = 0; i < 3000; i++) {
            x.ask();
            x.no(i & ALL);
            x.yes();
            x.yes();
            x.no(i * 7 & ALL);
            x.object(i * 31 & ALL);
            x.accepted(i, 1);
            x.concept(i, 5);
            x.remove(i % 23);
        }
        due.holds("an answer", x.count(0) == 12);
    }
}
