/** Each promise by runs whose answers were worked out by hand. */
public final class PromisesTest {
    private static final int NONE = ConceptTable.NONE, BAD = ConceptTable.BAD;
    private static final int FULL = ConceptTable.FULL, AGAINST = ConceptTable.AGAINST;
    private static final int MOST = Integer.MAX_VALUE, LEAST = Integer.MIN_VALUE;

    private static final Due due = new Due("PromisesTest");

    public static void main(String[] args) {
        promise1();
        promise2();
        promise3();
        promise4();
        promise5();
        promise6();
        promise7();
        promise8();
        promise9();
        promise10();
        promise11();
        promise12();
        promise13();
        promise14();
        promise15();
        promise16();
        promise17();
        promise18();
        promise19();
        promise20();
        promise21();
        promise22();
        promise23();
        due.end();
    }

    private static ConceptTable table(int attributes, int... sets) {
        ConceptTable x = new ConceptTable();
        x.begin(attributes);
        for (int set : sets) {
            x.object(set);
        }
        return x;
    }

    /** Its closed sets are 0, 4, 12, 3, 7, 31 (in ORDER); its base 16 > 31, 8 > 12, 2 > 3, 1 > 3, 15 > 31. */
    private static ConceptTable five() {
        return table(5, 7, 3, 12);
    }

    /** 20 objects, and yet a question: 4, whether 7 follows. */
    private static ConceptTable fullAndAsking() {
        ConceptTable x = table(3, new int[20]);
        due.is("ask() of 20", x.ask(), 4);
        return x;
    }

    private static void promise1() {
        ConceptTable x = new ConceptTable();
        due.is("1 attributes", x.count(0), 6);
        due.is("1 objects", x.count(1), 0);
        due.is("1 accepted", x.count(2), 0);
        due.is("1 asking", x.count(3), 0);
        due.is("1 question", x.question(), NONE);
        due.is("1 common", x.common(0), 63);
        due.is("1 closure", x.closure(0), 63);
        due.is("1 closure of bits beyond", x.closure(64), BAD);
        due.is("1 concepts", x.concepts(), 1);
        due.is("1 base", x.base(), 1);
        due.is("1 greatest level", x.count(4), 0);
        due.is("1 object", x.object(63), 0);
    }

    private static void promise2() {
        ConceptTable x = new ConceptTable();
        due.is("2 begin(12)", x.begin(12), 0);
        due.is("2 all of 12", x.closure(4095), 4095);
        due.is("2 beyond 12", x.closure(4096), BAD);
        x.object(1);
        x.object(2);
        due.is("2 begin(1)", x.begin(1), 2);
        due.is("2 none left", x.count(1), 0);
        due.is("2 all of 1", x.closure(0), 1);
        due.is("2 beyond 1", x.closure(2), BAD);
        x.object(1);
        x.ask();
        x.yes();
        for (int wrong : new int[] {0, 13, -1, MOST, LEAST}) {
            due.is("2 begin(" + wrong + ")", x.begin(wrong), BAD);
        }
        due.is("2 a wrong one leaves attributes", x.count(0), 1);
        due.is("2 a wrong one leaves objects", x.count(1), 1);
        due.is("2 a wrong one leaves ASKING", x.count(3), 1);
        due.is("2 a wrong one leaves ACCEPTED", x.count(2), 1);
        due.is("2 base before", x.rule(0, 1), 1);
        due.is("2 begin(2)", x.begin(2), 1);
        due.is("2 no ASKING", x.count(3), 0);
        due.is("2 no ACCEPTED", x.count(2), 0);
        due.is("2 no question", x.question(), NONE);
        due.is("2 concepts anew", x.concepts(), 1);
        due.is("2 base anew", x.rule(0, 1), 3);
    }

    private static void promise3() {
        ConceptTable x = table(3);
        due.is("3 beyond", x.object(8), BAD);
        due.is("3 negative", x.object(-1), BAD);
        due.is("3 least", x.object(LEAST), BAD);
        for (int i = 0; i < 20; i++) {
            due.is("3 object " + i, x.object(i % 8), i);
        }
        due.is("3 FULL", x.object(0), FULL);
        due.is("3 BAD before FULL", x.object(8), BAD);
        due.is("3 still 20", x.count(1), 20);

        ConceptTable y = table(3, 4);
        y.ask();
        y.yes();
        due.is("3 a wrong one leaves ASKING", y.object(8), BAD);
        due.is("3 ASKING", y.count(3), 1);
        due.is("3 a right one", y.object(3), 1);
        due.is("3 no ASKING", y.count(3), 0);
        due.is("3 no question", y.question(), NONE);
        due.is("3 ACCEPTED stay", y.accepted(0, 1), 4);
        due.is("3 concepts change", y.concepts(), 4);

        ConceptTable z = fullAndAsking();
        due.is("3 FULL, ASKING", z.object(0), FULL);
        due.is("3 a full one leaves ASKING", z.question(), 4);
    }

    private static void promise4() {
        ConceptTable x = table(3, 1, 2, 4, 7);
        for (int wrong : new int[] {4, -1, 20, MOST, LEAST}) {
            due.is("4 remove(" + wrong + ")", x.remove(wrong), BAD);
        }
        due.is("4 its set", x.remove(1), 2);
        due.is("4 one less", x.count(1), 3);
        due.is("4 behind it", x.common(2), 4);
        due.is("4 last", x.common(4), 7);
        due.is("4 concepts", x.concepts(), 4);
        due.is("4 base", x.base(), 2);
        x.ask();
        x.yes();
        due.is("4 a wrong one", x.remove(3), BAD);
        due.is("4 leaves ASKING", x.count(3), 1);
        due.is("4 the last", x.remove(2), 7);
        due.is("4 no ASKING", x.count(3), 0);
        due.is("4 ACCEPTED stay", x.count(2), 1);
        due.is("4 the first", x.remove(0), 1);
        due.is("4 the only", x.remove(0), 4);
        due.is("4 of none", x.remove(0), BAD);
        due.is("4 a number again", x.object(5), 0);

        ConceptTable y = table(2, new int[20]);
        due.is("4 the 20th", y.remove(19), 0);
        due.is("4 room again", y.object(1), 19);
    }

    private static void promise5() {
        ConceptTable x = five();
        due.is("5 of none", x.common(0), 31);
        due.is("5 of one", x.common(4), 12);
        due.is("5 of two", x.common(3), 3);
        due.is("5 of others", x.common(5), 4);
        due.is("5 of all", x.common(7), 0);
        due.is("5 beyond", x.common(8), BAD);
        due.is("5 negative", x.common(-1), BAD);
        due.is("5 most", x.common(MOST), BAD);
        ConceptTable y = table(12, new int[20]);
        due.is("5 of 20", y.common((1 << 20) - 1), 0);
        due.is("5 beyond 20", y.common(1 << 20), BAD);
        due.is("5 no objects", table(1).common(0), 1);
        due.is("5 no such objects", table(1).common(1), BAD);
    }

    private static void promise6() {
        ConceptTable x = five();
        due.is("6 of none", x.extent(0), 7);
        due.is("6 of one", x.extent(4), 5);
        due.is("6 of two", x.extent(3), 3);
        due.is("6 of all", x.extent(31), 0);
        due.is("6 beyond", x.extent(32), BAD);
        due.is("6 negative", x.extent(-1), BAD);
        due.is("6 least", x.extent(LEAST), BAD);
        due.is("6 of 20", table(12, new int[20]).extent(0), (1 << 20) - 1);
        due.is("6 no objects", table(12).extent(0), 0);
    }

    private static void promise7() {
        ConceptTable x = five();
        due.is("7 closed", x.closure(0), 0);
        due.is("7 one", x.closure(1), 3);
        due.is("7 another", x.closure(8), 12);
        due.is("7 with no object", x.closure(16), 31);
        due.is("7 two", x.closure(5), 7);
        due.is("7 beyond", x.closure(32), BAD);
        due.is("7 negative", x.closure(-1), BAD);
        due.is("7 no objects", table(12).closure(0), 4095);
    }

    private static void promise8() {
        ConceptTable x = five();
        int[] inOrder = {0, 4, 12, 3, 7, 31};
        for (int i = 0; i + 1 < inOrder.length; i++) {
            due.is("8 next(" + inOrder[i] + ")", x.next(inOrder[i]), inOrder[i + 1]);
        }
        due.is("8 behind the last", x.next(31), NONE);
        due.is("8 behind 16", x.next(16), 4);
        due.is("8 behind 8", x.next(8), 4);
        due.is("8 behind 20", x.next(20), 12);
        due.is("8 behind 30", x.next(30), 3);
        due.is("8 behind 1", x.next(1), 3);
        due.is("8 behind 15", x.next(15), 31);
        due.is("8 beyond", x.next(32), BAD);
        due.is("8 negative", x.next(-1), BAD);
        due.is("8 one attribute", table(1, 0).next(0), 1);
        due.is("8 last of one attribute", table(1, 0).next(1), NONE);
        due.is("8 no objects", table(12).next(0), 4095);
        due.is("8 no objects, last", table(12).next(4095), NONE);
    }

    private static void promise9() {
        due.is("9 five", five().concepts(), 6);
        due.is("9 no objects", table(12).concepts(), 1);
        due.is("9 all alike", table(4, 5, 5, 5).concepts(), 2);
        due.is("9 full object", table(4, 15).concepts(), 1);
        due.is("9 all sets", table(3, 3, 5, 6).concepts(), 8);
        due.is("9 one attribute", table(1, 0, 1).concepts(), 2);
    }

    private static void promise10() {
        ConceptTable x = five();
        int[][] rows = {
            {0, 7, 0, 0, 2, NONE, NONE, NONE},
            {4, 5, 1, 1, 2, 0, NONE, NONE},
            {12, 4, 2, 1, 1, 4, NONE, NONE},
            {3, 3, 1, 1, 1, 0, NONE, NONE},
            {7, 1, 2, 2, 1, 4, 3, NONE},
            {31, 0, 3, 2, 0, 12, 7, NONE},
        };
        for (int i = 0; i < rows.length; i++) {
            for (int what = 0; what < rows[i].length; what++) {
                due.is("10 concept(" + i + ", " + what + ")", x.concept(i, what), rows[i][what]);
            }
        }
        for (int what = 0; what < 6; what++) {
            due.is("10 behind the last", x.concept(6, what), NONE);
        }
        due.is("10 i below 0", x.concept(-1, 0), NONE);
        due.is("10 greatest i", x.concept(MOST, 1), NONE);
        due.is("10 greatest what", x.concept(5, MOST), NONE);
        due.is("10 what below 0", x.concept(0, -1), BAD);
        due.is("10 least what", x.concept(0, LEAST), BAD);
        due.is("10 BAD before NONE", x.concept(6, -1), BAD);
        due.is("10 no objects", table(1).concept(0, 0), 1);
        due.is("10 no objects, above", table(1).concept(0, 5), NONE);
        // Two ways lead from 7 to 0, of one step more and less: the longer one is told.
        ConceptTable y = table(3, 6, 4, 1);
        due.is("10 longest way", y.concept(y.concepts() - 1, 2), 3);
        due.is("10 right above", y.concept(y.concepts() - 1, 3), 2);
        due.is("10 first above", y.concept(y.concepts() - 1, 5), 6);
        due.is("10 second above", y.concept(y.concepts() - 1, 6), 1);
        y.object(5);
        due.is("10 more above", y.concept(y.concepts() - 1, 3), 2);
        due.is("10 in place of a part of it", y.concept(y.concepts() - 1, 6), 5);
        due.is("10 none in its place", y.concept(y.concepts() - 1, 7), NONE);
        y.remove(3);
        y.remove(1);
        due.is("10 after remove", y.concept(y.concepts() - 1, 2), 2);
    }

    private static void promise11() {
        due.is("11 five", five().base(), 5);
        due.is("11 no objects", table(12).base(), 1);
        due.is("11 all sets", table(3, 3, 5, 6).base(), 0);
        due.is("11 full object", table(3, 7).base(), 1);
        due.is("11 empty object", table(12, 0).base(), 12);
        ConceptTable x = table(3, 3, 2, 6);
        due.is("11 one rule", x.base(), 1);
        x.object(0);
        due.is("11 after object", x.base(), 2);
        x.remove(3);
        due.is("11 after remove", x.base(), 1);
    }

    private static void promise12() {
        ConceptTable x = five();
        int[][] rows = {{16, 31, 0}, {8, 12, 1}, {2, 3, 2}, {1, 3, 2}, {15, 31, 0}};
        for (int i = 0; i < rows.length; i++) {
            for (int what = 0; what < 3; what++) {
                due.is("12 rule(" + i + ", " + what + ")", x.rule(i, what), rows[i][what]);
            }
        }
        for (int what = 0; what < 3; what++) {
            due.is("12 behind the last", x.rule(5, what), NONE);
            due.is("12 i below 0", x.rule(-1, what), NONE);
            due.is("12 greatest i", x.rule(MOST, what), NONE);
        }
        due.is("12 what 3", x.rule(0, 3), BAD);
        due.is("12 what below 0", x.rule(0, -1), BAD);
        due.is("12 BAD before NONE", x.rule(5, 3), BAD);
        due.is("12 BAD before NONE, too", x.rule(-1, LEAST), BAD);
        due.is("12 no objects, IF", table(12).rule(0, 0), 0);
        due.is("12 no objects, THEN", table(12).rule(0, 1), 4095);
        due.is("12 no objects, how many", table(12).rule(0, 2), 0);
        due.is("12 twenty", table(2, 3, 3, 3, 3, 3, 3, 3, 3, 3, 3, 3, 3, 3, 3, 3, 3, 3, 3, 3, 3).rule(0, 2), 20);
        // {0, 1} is no premise, as {0} has more for its closure; {0, 1, 2} is one, as it has all of those of its parts.
        ConceptTable y = table(4, 6, 5, 0);
        int[][] inner = {{8, 15}, {2, 6}, {1, 5}, {7, 15}, {NONE, NONE}};
        for (int i = 0; i < inner.length; i++) {
            due.is("12 IF " + i, y.rule(i, 0), inner[i][0]);
            due.is("12 THEN " + i, y.rule(i, 1), inner[i][1]);
        }
    }

    private static void promise13() {
        ConceptTable x = five();
        due.is("13 no rule", x.follows(9, 0), 9);
        due.is("13 a rule that does not fit", x.follows(8, 1), 8);
        due.is("13 two", x.follows(8, 2), 12);
        due.is("13 four", x.follows(9, 4), 15);
        due.is("13 five", x.follows(9, 5), 31);
        due.is("13 more than there are", x.follows(9, MOST), 31);
        due.is("13 beyond", x.follows(32, 0), BAD);
        due.is("13 negative", x.follows(-1, 0), BAD);
        due.is("13 n below 0", x.follows(0, -1), BAD);
        due.is("13 least n", x.follows(0, LEAST), BAD);
        // Rules 12 > 14, 10 > 14, 6 > 14, 1 > 3: only when the last one has worked does the third one.
        ConceptTable y = table(4, 2, 4, 3, 14, 8);
        due.is("13 rules", y.base(), 4);
        due.is("13 a rule again", y.follows(5, 4), 15);
        due.is("13 without the last", y.follows(5, 3), 5);
        due.is("13 no objects", table(12).follows(0, 1), 4095);
        due.is("13 no rules at all", table(3, 3, 5, 6).follows(1, 7), 1);
    }

    private static void promise14() {
        ConceptTable x = five();
        due.is("14 holds", x.holds(1, 2), 1);
        due.is("14 holds to all", x.holds(1, 3), 1);
        due.is("14 does not", x.holds(2, 4), 0);
        due.is("14 does not in one", x.holds(0, 4), 0);
        due.is("14 of no object", x.holds(16, 31), 1);
        due.is("14 nothing", x.holds(0, 0), 1);
        due.is("14 beyond IF", x.holds(32, 0), BAD);
        due.is("14 beyond THEN", x.holds(0, 32), BAD);
        due.is("14 beyond THEN of no object", x.holds(31, 32), BAD);
        due.is("14 negative", x.holds(-1, -1), BAD);
        due.is("14 no objects", table(12).holds(0, 4095), 1);
    }

    private static void promise15() {
        ConceptTable x = five();
        int[] want = {1, 1, 1, 1, 0};
        for (int k = 0; k < want.length; k++) {
            due.is("15 needed(" + k + ")", x.needed(k), want[k]);
        }
        due.is("15 beyond", x.needed(5), BAD);
        due.is("15 below", x.needed(-1), BAD);
        due.is("15 most", x.needed(MOST), BAD);
        due.is("15 of all objects", table(3, 3, 2, 6).needed(1), 0);
        due.is("15 of no object", table(1, 0).needed(0), 1);
        due.is("15 no objects", table(12).needed(11), 0);
        // Attribute 2 belongs to just those that have 0 and 1.
        due.is("15 of two others", table(3, 7, 1, 2).needed(2), 0);
        due.is("15 of alike ones", table(4, 15, 1, 2).needed(3), 0);
    }

    private static void promise16() {
        ConceptTable x = table(5, 7, 3, 12, 0, 31, 4, 7);
        int[] want = {1, 1, 1, 0, 0, 0, 1};
        for (int i = 0; i < want.length; i++) {
            due.is("16 neededObject(" + i + ")", x.neededObject(i), want[i]);
        }
        due.is("16 beyond", x.neededObject(7), BAD);
        due.is("16 below", x.neededObject(-1), BAD);
        due.is("16 most", x.neededObject(MOST), BAD);
        due.is("16 no objects", table(3).neededObject(0), BAD);
        due.is("16 the 20th", table(3, new int[20]).neededObject(19), 1);
    }

    private static void promise17() {
        ConceptTable x = five();
        int[] want = {6, 5, 3, 1, 0};
        for (int least = 0; least < want.length; least++) {
            due.is("17 frequent(" + least + ")", x.frequent(least), want[least]);
        }
        due.is("17 below 0", x.frequent(-1), 6);
        due.is("17 least", x.frequent(LEAST), 6);
        due.is("17 most", x.frequent(MOST), 0);
        due.is("17 twenty", table(3, new int[20]).frequent(20), 1);
        due.is("17 no objects", table(12).frequent(0), 1);
        due.is("17 no objects, one", table(12).frequent(1), 0);
    }

    private static void promise18() {
        due.is("18 no objects", table(12).ask(), 0);
        due.is("18 all sets", table(3, 3, 5, 6).ask(), NONE);
        due.is("18 five", five().ask(), 16);
        ConceptTable x = five();
        x.ask();
        due.is("18 yes", x.yes(), 8);
        due.is("18 anew", x.ask(), 16);
        due.is("18 no ACCEPTED", x.count(2), 0);
        due.is("18 ASKING", x.count(3), 1);
        ConceptTable y = table(3, 3, 5, 6);
        y.ask();
        due.is("18 ASKING without a question", y.count(3), 1);
        x.yes();
        x.object(9);
        due.is("18 ACCEPTED till then", x.count(2), 1);
        due.is("18 with the object", x.ask(), 16);
        due.is("18 ACCEPTED no more", x.count(2), 0);
    }

    private static void promise19() {
        ConceptTable x = five();
        due.is("19 no ASKING", x.question(), NONE);
        x.ask();
        due.is("19 first", x.question(), 16);
        due.is("19 again", x.question(), 16);
        x.yes();
        due.is("19 second", x.question(), 8);
        x.no(8);
        due.is("19 after no", x.question(), 2);
        x.remove(0);
        due.is("19 ASKING ended", x.question(), NONE);
        ConceptTable y = table(3, 3, 5, 6);
        y.ask();
        due.is("19 there is none", y.question(), NONE);
    }

    private static void promise20() {
        ConceptTable x = five();
        due.is("20 no ASKING", x.yes(), BAD);
        x.ask();
        int[] want = {8, 2, 1, 15, NONE, BAD, BAD};
        for (int set : want) {
            due.is("20 yes", x.yes(), set);
        }
        due.is("20 ACCEPTED", x.count(2), 5);
        due.is("20 ASKING stays", x.count(3), 1);
        for (int i = 0; i < 5; i++) {
            due.is("20 the base's IF", x.accepted(i, 0), x.rule(i, 0));
            due.is("20 the base's THEN", x.accepted(i, 1), x.rule(i, 1));
        }
        ConceptTable y = fullAndAsking();
        due.is("20 with 20 objects", y.yes(), 2);
    }

    private static void promise21() {
        ConceptTable x = table(3);
        due.is("21 no ASKING", x.no(0), BAD);
        due.is("21 ask", x.ask(), 0);
        due.is("21 all of the closure", x.no(7), AGAINST);
        due.is("21 beyond", x.no(8), BAD);
        due.is("21 negative", x.no(-1), BAD);
        due.is("21 first", x.no(6), 0);
        due.is("21 asked again, for less", x.question(), 0);
        due.is("21 all of the closure, and more", x.no(6), AGAINST);
        due.is("21 second", x.no(0), 1);
        due.is("21 then", x.question(), 4);
        due.is("21 not the question's set", x.no(2), AGAINST);
        due.is("21 yes", x.yes(), 2);
        due.is("21 third", x.no(2), 2);
        due.is("21 then 1", x.question(), 1);
        due.is("21 against an ACCEPTED rule", x.no(5), AGAINST);
        due.is("21 nothing has changed", x.count(1), 3);
        due.is("21 fourth", x.no(1), 3);
        due.is("21 then 3", x.question(), 3);
        due.is("21 the end", x.yes(), NONE);
        due.is("21 no question", x.no(0), BAD);
        due.is("21 ACCEPTED", x.count(2), 2);
        due.is("21 ASKING", x.count(3), 1);
        due.is("21 concepts of the answers", x.concepts(), 5);
        due.is("21 base of the answers", x.rule(1, 0), 3);
        due.is("21 an object like others", x.remove(3), 1);

        ConceptTable y = fullAndAsking();
        due.is("21 FULL", y.no(4), FULL);
        due.is("21 AGAINST before FULL", y.no(7), AGAINST);
        due.is("21 AGAINST before FULL, too", y.no(3), AGAINST);
        due.is("21 BAD before FULL", y.no(8), BAD);
        due.is("21 the question stays", y.question(), 4);
        due.is("21 still 20", y.count(1), 20);

        ConceptTable z = table(3, new int[19]);
        z.ask();
        due.is("21 the 20th", z.no(4), 19);
        due.is("21 its question", z.question(), 2);
        due.is("21 then FULL", z.no(2), FULL);
    }

    private static void promise22() {
        ConceptTable x = table(3);
        due.is("22 none", x.accepted(0, 0), NONE);
        x.ask();
        x.no(6);
        x.no(0);
        x.yes();
        x.no(2);
        x.no(1);
        x.yes();
        for (int pass = 0; pass < 2; pass++) {
            due.is("22 IF 0", x.accepted(0, 0), 4);
            due.is("22 THEN 0", x.accepted(0, 1), 6);
            due.is("22 IF 1", x.accepted(1, 0), 3);
            due.is("22 THEN 1", x.accepted(1, 1), 7);
            due.is("22 behind", x.accepted(2, 0), NONE);
            due.is("22 i below 0", x.accepted(-1, 1), NONE);
            due.is("22 greatest i", x.accepted(MOST, 1), NONE);
            due.is("22 what 2", x.accepted(0, 2), BAD);
            due.is("22 what below 0", x.accepted(0, -1), BAD);
            due.is("22 BAD before NONE", x.accepted(2, 2), BAD);
            // They stay told without ASKING, and as they were, whatever the objects are.
            x.remove(0);
            due.is("22 no ASKING", x.count(3), 0);
        }
        x.begin(3);
        due.is("22 after begin", x.accepted(0, 0), NONE);
    }

    private static void promise23() {
        ConceptTable x = five();
        int[] want = {5, 3, 0, 0, 3};
        for (int what = 0; what < want.length; what++) {
            due.is("23 count(" + what + ")", x.count(what), want[what]);
        }
        for (int wrong : new int[] {5, -1, MOST, LEAST}) {
            due.is("23 count(" + wrong + ")", x.count(wrong), BAD);
        }
        x.ask();
        due.is("23 ASKING", x.count(3), 1);
        x.yes();
        due.is("23 ACCEPTED", x.count(2), 1);
        x.no(8);
        due.is("23 one more", x.count(1), 4);
        due.is("23 no level more", x.count(4), 3);
        x.object(15);
        due.is("23 a level more", x.count(4), 4);
        due.is("23 no objects", table(12).count(4), 0);
        due.is("23 one attribute", table(1, 0).count(4), 1);
    }
}
