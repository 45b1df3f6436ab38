/** The edges of promises 8 to 10 and 17: the closed sets. */
final class EdgesOfConcepts extends Edges {
    private EdgesOfConcepts() {
    }

    private static void row(Due due, String when, ConceptTable x, int i, int... answers) {
        for (int what = 0; what < answers.length; what++) {
            due.is("concept(" + i + ", " + what + ") " + when, x.concept(i, what), answers[what]);
        }
    }

    // Promise 8: next

    @Edge(promise = 8, words = "of two the one comes later that has the least ATTRIBUTE in which they differ",
        broken = "for (int k = attributes - 1; k >= 0; k--) { int bit = 1 << k; if ((before & bit) "
            + "=> for (int k = 0; k < attributes; k++) { int bit = 1 << k; if ((before & bit)")
    static void promise8InOrder(Due due) {
        ConceptTable x = everySet(3);
        int[] inOrder = {0, 4, 2, 6, 1, 5, 3, 7};
        for (int i = 0; i < 7; i++) {
            due.is("next(" + inOrder[i] + ")", x.next(inOrder[i]), inOrder[i + 1]);
        }
        ConceptTable y = everySet(12);
        due.is("behind the last attribute", y.next(2048), 1024);
        due.is("behind all but the first", y.next(4094), 1);
        due.is("behind the first attribute", y.next(1), 2049);
    }

    @Edge(promise = 8, words = "behind a set (CLOSED or not)",
        broken = {"table.closedBehind(set) : BAD => table.closedBehind(table.closureOf(set)) : BAD",
            "table.closedBehind(set) : BAD => family.isClosed(set) ? table.closedBehind(set) : NONE : BAD"})
    static void promise8BehindASetThatIsNotClosed(Due due) {
        ConceptTable x = five();
        int[][] pairs = {
            {16, 4}, {8, 4}, {24, 4}, {20, 12}, {28, 3}, {2, 3},
            {30, 3}, {1, 3}, {5, 3}, {19, 7}, {15, 31}, {23, 31}};
        for (int[] pair : pairs) {
            due.is("next(" + pair[0] + ")", x.next(pair[0]), pair[1]);
        }
    }

    @Edge(promise = 8, words = "NONE, behind the last one.",
        broken = {"return closed; } } } return NONE; => return closed; } } } return allAttributes();",
            "return closed; } } } return NONE; => return closed; } } } return closureOf(0);"})
    static void promise8NoneBehindTheLast(Due due) {
        for (int n = 1; n <= 12; n++) {
            due.is("of " + n + " without objects", table(n).next(all(n)), NONE);
            due.is("of " + n + " with one that has all", table(n, all(n)).next(all(n)), NONE);
            due.is("of " + n + " with every set", everySet(n).next(all(n)), NONE);
        }
    }

    @Edge(promise = 8, words = "NONE, behind the last one.",
        broken = {"for (int k = attributes - 1; k >= 0; k--) { int bit = 1 << k; if ((before & bit) "
            + "=> for (int k = attributes - 1; k > 0; k--) { int bit = 1 << k; if ((before & bit)",
            "for (int k = attributes - 1; k >= 0; k--) { int bit = 1 << k; if ((before & bit) "
            + "=> for (int k = attributes - 2; k >= 0; k--) { int bit = 1 << k; if ((before & bit)"})
    static void promise8SomethingBehindEachOther(Due due) {
        ConceptTable x = table(4);
        ConceptTable y = everySet(4);
        for (int set = 0; set < 15; set++) {
            due.is("next(" + set + ") without objects", x.next(set), 15);
            due.holds("next(" + set + ") of every set is one", y.next(set) >= 0);
        }
        due.is("behind all but the last of twelve", table(12).next(2047), 4095);
        due.is("behind all but the first of twelve", table(12).next(4094), 4095);
    }

    @Edge(promise = 8, words = "The next CLOSED set behind a set",
        broken = {"int closedBehind(int set) { => int closedBehind(int set) { if (set == 0) { return closureOf(0); }",
            "int closedBehind(int set) { "
            + "=> int closedBehind(int set) { if (set == 0) { return closureOf(1 << attributes - 1); }"})
    static void promise8BehindTheEmptySet(Due due) {
        due.is("that is closed", five().next(0), 4);
        due.is("that is not", table(3, 6, 2).next(0), 2);
        due.is("without objects", table(3).next(0), 7);
        due.is("of one attribute", table(1, 0).next(0), 1);
    }

    @Edge(promise = 8, words = "BAD, likewise.",
        broken = {"return table.isAttributeSet(set) ? table.closedBehind(set) : BAD; "
            + "=> return table.closedBehind(set);",
            "return table.isAttributeSet(set) ? table.closedBehind(set) : BAD; "
            + "=> return set <= table.allAttributes() ? table.closedBehind(set) : NONE;"})
    static void promise8BitsBeyondAttributes(Due due) {
        badBeyond(due, "next", (x, set) -> x.next(set));
    }

    @Edge(promise = 8, words = "BAD, likewise.",
        broken = "public int next(int set) { => public int next(int set) { inquiry.stop();")
    static void promise8BadChangesNothing(Due due) {
        changesNothingAnywhere(due, "next(64)", x -> x.next(64), BAD);
        changesNothingAnywhere(due, "next(-1)", x -> x.next(-1), BAD);
    }

    // Promise 9: concepts

    @Edge(promise = 9, words = "CONCEPTS are the CLOSED sets", broken = "include(Sets.allOf(attributes)); => ;")
    static void promise9OneAtLeast(Due due) {
        for (int n = 1; n <= 12; n++) {
            due.is("of " + n + " without objects", table(n).concepts(), 1);
            due.is("of " + n + " with 20 that have all", alike(n, all(n), 20).concepts(), 1);
            due.is("of " + n + " with 20 that have none", alike(n, 0, 20).concepts(), 2);
        }
    }

    @Edge(promise = 9, words = "CONCEPTS are the CLOSED sets",
        broken = {"MOST_SETS = 1 << MOST_ATTRIBUTES => MOST_SETS = (1 << MOST_ATTRIBUTES) - 1",
            "size < members.length => size < 4095"})
    static void promise9EverySet(Due due) {
        for (int n = 1; n <= 12; n++) {
            due.is("of " + n, everySet(n).concepts(), 1 << n);
        }
        ConceptTable x = everySet(12);
        for (int i = 0; i < 8; i++) {
            x.object(i);
        }
        due.is("of 20 objects", x.concepts(), 4096);
    }

    @Edge(promise = 9, words = "CONCEPTS are the CLOSED sets", broken = "if (!isClosed(set) && size => if (size")
    static void promise9SeveralAlike(Due due) {
        due.is("of 20 alike", alike(12, 5, 20).concepts(), 2);
        due.is("of two alike and one", table(3, 3, 3, 6).concepts(), 4);
    }

    @Edge(promise = 9, words = "How many CONCEPTS there are.",
        broken = {"family.meetWith(set); stem.forget(); => stem.forget();", "family.meetWith(table.row(i)); => ;",
            "family.restart(table.attributes()); => ;"})
    static void promise9AfterEachChange(Due due) {
        ConceptTable x = table(3, 6);
        concepts(due, "at first", x, 6, 7);
        x.object(3);
        concepts(due, "after object(3)", x, 2, 6, 3, 7);
        x.remove(0);
        concepts(due, "after remove(0)", x, 3, 7);
        x.ask();
        x.no(0);
        concepts(due, "after no(0)", x, 0, 3, 7);
        x.begin(2);
        concepts(due, "after begin(2)", x, 3);
    }

    // Promise 10: concept

    @Edge(promise = 10,
        words = "what = 0 its set, 1 its EXTENT, 2 its LEVEL, 3 how many are right ABOVE it, 4 how many it is right ABOVE",
        broken = {"case 1: return table.extentOf(set); => case 1: return Integer.bitCount(table.extentOf(set));",
            "case 2: return family.levelOf(set); => case 2: return Integer.bitCount(set);",
            "neighbours.findBelow(set, table); => neighbours.findAbove(set, table);",
            "ABOVE_FROM = 5 => ABOVE_FROM = 4"})
    static void promise10WhatFrom0To5(Due due) {
        ConceptTable x = five();
        row(due, "of five", x, 0, 0, 7, 0, 0, 2, NONE);
        row(due, "of five", x, 1, 4, 5, 1, 1, 2, 0, NONE);
        row(due, "of five", x, 2, 12, 4, 2, 1, 1, 4, NONE);
        row(due, "of five", x, 3, 3, 3, 1, 1, 1, 0, NONE);
        row(due, "of five", x, 4, 7, 1, 2, 2, 1, 4, 3, NONE);
        row(due, "of five", x, 5, 31, 0, 3, 2, 0, 12, 7, NONE);
    }

    @Edge(promise = 10, words = "CONCEPTS are the CLOSED sets, in ORDER from 0 on", broken = "putInOrder(); for => for")
    static void promise10FromTheFirstToTheLast(Due due) {
        concepts(due, "of every set of three", everySet(3), 0, 4, 2, 6, 1, 5, 3, 7);
        concepts(due, "of every set of one", everySet(1), 0, 1);
        ConceptTable x = everySet(12);
        due.is("the first of 4096", x.concept(0, 0), 0);
        due.is("the second of 4096", x.concept(1, 0), 2048);
        due.is("the last but one of 4096", x.concept(4094, 0), 2047);
        due.is("the last of 4096", x.concept(4095, 0), 4095);
    }

    @Edge(promise = 10, words = "how many it is right ABOVE",
        broken = {"int set = family.member(i); => int set = table.size() == 0 ? 0 : family.member(i);",
            "table.size(); i++) { int above = set & table.row(i); if (above != set) { offer "
            + "=> table.size() + 1; i++) { int above = set & table.row(i); if (above != set) { offer"})
    static void promise10NoObjects(Due due) {
        for (int n = 1; n <= 12; n++) {
            row(due, "of " + n, table(n), 0, all(n), 0, 0, 0, 0, NONE, NONE);
        }
    }

    @Edge(promise = 10, words = "The LEVEL of a CONCEPT: the greatest number of steps",
        broken = {"level = Math.max(level, levelOf(above) + 1); => level = Math.max(level, 1);",
            "level = Math.max(level, levelOf(above) + 1); "
            + "=> level = level == 0 ? levelOf(above) + 1 : Math.min(level, levelOf(above) + 1);",
            "level = Math.max(level, levelOf(above) + 1); "
            + "=> level = Math.max(level, Math.min(levelOf(above) + 1, 11));"})
    static void promise10TheGreatestNumberOfSteps(Due due) {
        ConceptTable x = table(3, 6, 4, 1);
        concepts(due, "of two ways", x, 0, 4, 6, 1, 7);
        due.is("by the longer way", x.concept(4, 2), 3);
        due.is("by the other one", x.concept(3, 2), 1);
        ConceptTable y = everySet(12);
        due.is("of the first", y.concept(0, 2), 0);
        due.is("of the second", y.concept(1, 2), 1);
        due.is("of the last", y.concept(4095, 2), 12);
        due.is("of the only one", table(12).concept(0, 2), 0);
    }

    @Edge(promise = 10, words = "if it is a part of it (not all of it)",
        broken = {"if (above != set) { offer(above); } => offer(above);",
            "if (above != set) { level = => { level =",
            "if ((set & bit) == 0) { offer => { offer"})
    static void promise10NotAboveItself(Due due) {
        ConceptTable x = table(3, 5, 5, 7);
        row(due, "of alike ones", x, 0, 5, 7, 0, 0, 1, NONE);
        row(due, "of alike ones", x, 1, 7, 4, 1, 1, 0, 5, NONE);
    }

    @Edge(promise = 10, words = "right ABOVE, if none lies between",
        broken = {"dropPartsOf(set); insert(set); => insert(set);", "if (!isPartOfFound(set)) { => {",
            "found[kept] = found[i]; => ;"})
    static void promise10NoneLiesBetween(Due due) {
        int[][] orders = {{1, 3, 0}, {0, 3, 1}, {3, 1, 0}, {1, 0, 3}};
        for (int[] sets : orders) {
            ConceptTable x = table(3, sets);
            concepts(due, "of a chain", x, 0, 1, 3, 7);
            due.is("right above the last", x.concept(3, 3), 1);
            due.is("the one", x.concept(3, 5), 3);
            due.is("no other one", x.concept(3, 6), NONE);
            due.is("right below the first", x.concept(0, 4), 1);
            due.is("right above the first", x.concept(0, 3), 0);
            due.is("right below the last", x.concept(3, 4), 0);
        }
        // 12 lies between 8 and 15, and takes its place among those above.
        row(due, "of one in another's place", table(4, 8, 2, 12), 4, 15, 0, 3, 2, 0, 12, 2, NONE);
    }

    @Edge(promise = 10, words = "4 how many it is right ABOVE",
        broken = {"k < table.attributes(); k++) => k < table.attributes() - 1; k++)",
            "for (int k = 0; k < table.attributes(); => for (int k = 1; k < table.attributes();"})
    static void promise10HowManyItIsRightAbove(Due due) {
        for (int n = 1; n <= 12; n++) {
            ConceptTable x = everySet(n);
            due.is("the first of " + n, x.concept(0, 4), n);
            due.is("the second of " + n, x.concept(1, 4), n - 1);
            due.is("the last of " + n, x.concept(all(n), 4), 0);
            due.is("the only one of " + n, table(n).concept(0, 4), 0);
        }
    }

    @Edge(promise = 10, words = "from 5 on the sets of those right ABOVE it, in ORDER",
        broken = {"Sets.comesLater(found[place - 1], set)) => found[place - 1] > set)",
            "Sets.comesLater(found[place - 1], set)) => found[place - 1] < 0)"})
    static void promise10ThoseAboveInOrder(Due due) {
        int[][] orders = {{3, 5, 6}, {6, 5, 3}, {5, 3, 6}, {5, 6, 3}};
        for (int[] sets : orders) {
            row(due, "in ORDER", table(3, sets), 7, 7, 0, 3, 3, 0, 6, 5, 3, NONE);
        }
        ConceptTable x = everySet(12);
        due.is("how many above the last", x.concept(4095, 3), 12);
        for (int k = 0; k < 12; k++) {
            due.is("above the last, " + k, x.concept(4095, 5 + k), 4095 ^ 1 << k);
        }
    }

    @Edge(promise = 10, words = "NONE behind them.",
        broken = {"i >= 0 && i < size ? found[i] : NONE => i >= 0 && i < found.length ? found[i] : NONE",
            "i >= 0 && i < size ? found[i] : NONE => i >= 0 && i < size ? found[i] : BAD",
            "neighbours.member(what - ABOVE_FROM) => neighbours.member((what - ABOVE_FROM) & 7)"})
    static void promise10NoneBehindThoseAbove(Due due) {
        ConceptTable x = five();
        for (int i = 0; i < 6; i++) {
            int above = x.concept(i, 3);
            for (int what : new int[] {5 + above, 6 + above, 17, 24, 25, 26, 37, MOST - 1, MOST}) {
                due.is("concept(" + i + ", " + what + ")", x.concept(i, what), NONE);
            }
        }
        ConceptTable y = everySet(12);
        due.is("the last above the last", y.concept(4095, 16), 2047);
        due.is("behind it", y.concept(4095, 17), NONE);
    }

    @Edge(promise = 10, words = "NONE: there is none such",
        broken = {"i < 0 || i >= family.size() => i < 0 || i > family.size()",
            "i < 0 || i >= family.size() => i >= family.size()",
            "i >= family.size()) { return NONE; } => i >= family.size()) { return BAD; }"})
    static void promise10NoneSuch(Due due) {
        ConceptTable x = five();
        ConceptTable y = everySet(12);
        for (int what = 0; what < 8; what++) {
            for (int i : new int[] {6, 7, 4096, -1, -6, MOST, LEAST}) {
                due.is("concept(" + i + ", " + what + ") of six", x.concept(i, what), NONE);
            }
            for (int i : new int[] {4096, 4097, 8191, -1, -4096, MOST, LEAST}) {
                due.is("concept(" + i + ", " + what + ") of 4096", y.concept(i, what), NONE);
            }
            due.is("concept(1, " + what + ") of one", table(12).concept(1, what), NONE);
        }
    }

    @Edge(promise = 10, words = "BAD, before that: what below 0.",
        broken = {"if (what < 0) { return BAD; } if (i < 0 || i >= family.size()) { return NONE; } "
            + "=> if (i < 0 || i >= family.size()) { return NONE; } if (what < 0) { return BAD; }",
            "if (what < 0) { return BAD; } if (i => if (what == -1) { return BAD; } if (i",
            "if (what < 0) { return BAD; } if (i => if (what < -1) { return BAD; } if (i"})
    static void promise10BadBeforeNone(Due due) {
        ConceptTable x = five();
        for (int what : new int[] {-1, -2, -5, LEAST, LEAST + 4, LEAST + 5}) {
            for (int i : new int[] {0, 5, 6, -1, MOST, LEAST}) {
                due.is("concept(" + i + ", " + what + ")", x.concept(i, what), BAD);
            }
        }
    }

    @Edge(promise = 10, words = "BAD, before that: what below 0.",
        broken = "public int concept(int i, int what) { => public int concept(int i, int what) { inquiry.stop();")
    static void promise10BadChangesNothing(Due due) {
        changesNothingAnywhere(due, "concept(0, -1)", x -> x.concept(0, -1), BAD);
        changesNothingAnywhere(due, "concept(LEAST, LEAST)", x -> x.concept(LEAST, LEAST), BAD);
    }

    // Promise 17: frequent

    @Edge(promise = 17, words = "at least so many OBJECTS in their EXTENT", broken = ">= least) { => > least) {")
    static void promise17AtLeastSoMany(Due due) {
        int[] want = {6, 5, 3, 1, 0};
        for (int least = 0; least < want.length; least++) {
            due.is("frequent(" + least + ")", five().frequent(least), want[least]);
        }
    }

    @Edge(promise = 17, words = "How many CONCEPTS have at least so many OBJECTS in their EXTENT.",
        broken = {"int found = 0; => if (least < 0) { return BAD; } int found = 0;",
            "int found = 0; => if (least <= 0) { return 0; } int found = 0;"})
    static void promise17ZeroAndBelow(Due due) {
        for (int least : new int[] {0, -1, -20, LEAST}) {
            due.is("frequent(" + least + ") of five", five().frequent(least), 6);
            due.is("frequent(" + least + ") of every set", everySet(12).frequent(least), 4096);
        }
    }

    @Edge(promise = 17, words = "How many CONCEPTS have at least so many OBJECTS in their EXTENT.",
        broken = {"int found = 0; => if (least >= 20) { return 0; } int found = 0;",
            "int found = 0; => if (least > 20) { return BAD; } int found = 0;",
            ">= least) { => >= Math.min(least, table.size())) {"})
    static void promise17AsManyAsThereAreAndMore(Due due) {
        ConceptTable x = alike(12, 5, 20);
        due.is("frequent(20) of 20", x.frequent(20), 1);
        for (int least : new int[] {21, 32, MOST}) {
            due.is("frequent(" + least + ") of 20", x.frequent(least), 0);
        }
        due.is("frequent(1) of one that has all", table(1, 1).frequent(1), 1);
    }

    @Edge(promise = 17, words = "How many CONCEPTS have at least so many OBJECTS in their EXTENT.",
        broken = "int found = 0; => if (table.size() == 0) { return 0; } int found = 0;")
    static void promise17NoObjects(Due due) {
        due.is("frequent(-1)", table(12).frequent(-1), 1);
        due.is("frequent(0)", table(12).frequent(0), 1);
        due.is("frequent(1)", table(12).frequent(1), 0);
    }
}
