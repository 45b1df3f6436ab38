/** The edges of promises 11 to 16: the base, what follows by it, and what is needed. */
final class EdgesOfRules extends Edges {
    private EdgesOfRules() {
    }

    private static final int[][] NO_RULES = {};

    // Promise 11: base

    @Edge(promise = 11, words = "a set is a PREMISE if it is not CLOSED",
        broken = "if (!family.isClosed(set) && Sets.hasAll(set, fromParts)) => if (Sets.hasAll(set, fromParts))")
    static void promise11NoRuleIfEverySetIsClosed(Due due) {
        for (int n = 1; n <= 12; n++) {
            rules(due, "of every set of " + n, everySet(n), NO_RULES);
        }
    }

    @Edge(promise = 11, words = "THE BASE: PREMISES, each with its CLOSURE as THEN",
        broken = "int fromParts = joinedOfParts(set, attributes); "
            + "=> int fromParts = set == 0 ? 1 : joinedOfParts(set, attributes);")
    static void promise11OneRuleWithoutObjects(Due due) {
        for (int n = 1; n <= 12; n++) {
            rules(due, "of " + n + " without objects", table(n), new int[] {0, all(n)});
            rules(due, "of " + n + " with one that has all", table(n, all(n)), new int[] {0, all(n)});
        }
    }

    @Edge(promise = 11, words = "the CLOSURE of each PREMISE that is a part of it (not all of it) is a part of it, too",
        broken = {"isClosed(set) && Sets.hasAll(set, fromParts)) => isClosed(set))",
            "fromParts |= closed; => ;",
            "if ((set & bit) != 0) { closures => if ((set & bit) != 0 && k > 0) { closures"})
    static void promise11ClosuresOfItsParts(Due due) {
        // 3 has the premises 1 and 2 for parts, and not their closures; 7 has these, too.
        rules(due, "with one of rules' closures", table(4, 6, 5, 0),
            new int[] {8, 15}, new int[] {2, 6}, new int[] {1, 5}, new int[] {7, 15});
        rules(due, "of a chain", table(3, 1, 3, 0, 7), new int[] {4, 7}, new int[] {2, 3});
        due.is("base() of one without any", table(12, 0).base(), 12);
    }

    @Edge(promise = 11, words = "a part of it (not all of it)",
        broken = "int fromParts = joinedOfParts(set, attributes); "
            + "=> int fromParts = joinedOfParts(set, attributes) | (family.isClosed(set) ? 0 : table.closureOf(set));")
    static void promise11NotItsOwnClosure(Due due) {
        rules(due, "of one that has 2", table(2, 2), new int[] {0, 2});
        rules(due, "of one that has none", table(1, 0), NO_RULES);
        rules(due, "of two", table(2, 2, 0), new int[] {1, 3});
    }

    @Edge(promise = 11, words = "How many rules THE BASE has.",
        broken = {"new Rules(MOST_SETS) => new Rules(200)", "new Rules(MOST_SETS) => new Rules(206)"})
    static void promise11ManyRules(Due due) {
        ConceptTable x = table(12, MANY_RULES);
        due.is("base()", x.base(), 207);
        due.holds("there is a rule 206", x.rule(206, 0) >= 0);
        due.is("rule(207, 0)", x.rule(207, 0), NONE);
    }

    @Edge(promise = 11, words = "How many rules THE BASE has.",
        broken = {"family.meetWith(set); stem.forget(); => family.meetWith(set);",
            "stem.forget(); return set; => return set;",
            "stem.forget(); inquiry.forget(); => inquiry.forget();"})
    static void promise11AfterEachChange(Due due) {
        ConceptTable x = table(2);
        rules(due, "at first", x, new int[] {0, 3});
        x.object(2);
        rules(due, "after object(2)", x, new int[] {0, 2});
        x.ask();
        x.no(0);
        rules(due, "after no(0)", x, new int[] {1, 3});
        x.remove(1);
        rules(due, "after remove(1)", x, new int[] {0, 2});
        x.begin(1);
        rules(due, "after begin(1)", x, new int[] {0, 1});
    }

    // Promise 12: rule

    @Edge(promise = 12, words = "how many OBJECTS have all of its IF (2)",
        broken = {"NONE : Integer.bitCount(table.extentOf(premise)) => NONE : table.extentOf(premise)",
            "NONE : Integer.bitCount(table.extentOf(premise)) "
            + "=> NONE : Math.min(Integer.bitCount(table.extentOf(premise)), 19)"})
    static void promise12HowManyHaveIt(Due due) {
        int[] want = {0, 1, 2, 2, 0};
        for (int i = 0; i < want.length; i++) {
            due.is("rule(" + i + ", 2)", five().rule(i, 2), want[i]);
        }
        due.is("of no objects", table(12).rule(0, 2), 0);
        due.is("all of 20", alike(12, 5, 20).rule(0, 2), 20);
        due.is("none of 20", alike(12, 0, 20).rule(0, 2), 0);
    }

    @Edge(promise = 12, words = "PREMISES, each with its CLOSURE as THEN, in ORDER",
        broken = "setJoined(set, fromParts); set = Sets.rightBehind(set, attributes); "
            + "=> setJoined(set, fromParts); set = set + 1 < 1 << attributes ? set + 1 : NONE;")
    static void promise12InOrder(Due due) {
        rules(due, "of five", five(),
            new int[] {16, 31}, new int[] {8, 12}, new int[] {2, 3}, new int[] {1, 3}, new int[] {15, 31});
        ConceptTable x = table(12, 0);
        for (int i = 0; i < 12; i++) {
            due.is("IF of rule " + i, x.rule(i, 0), 1 << 11 - i);
            due.is("THEN of rule " + i, x.rule(i, 1), 4095);
        }
    }

    @Edge(promise = 12, words = "NONE: there is none such",
        broken = {"premise == NONE ? NONE : Integer => Integer",
            "i >= 0 && i < size ? premises[i] : NONE => i >= 0 && i < premises.length ? premises[i] : NONE",
            "i >= 0 && i < size ? conclusions[i] : NONE => i >= 0 && i < conclusions.length ? conclusions[i] : NONE",
            "i >= 0 && i < size ? premises[i] : NONE => i < size ? premises[Math.max(i, 0)] : NONE",
            "i >= 0 && i < size ? conclusions[i] : NONE => i < size ? conclusions[Math.max(i, 0)] : NONE",
            "rules.clear(); int attributes => rules.size(); int attributes"})
    static void promise12NoneSuch(Due due) {
        for (int what = 0; what < 3; what++) {
            ConceptTable x = five();
            for (int i : new int[] {5, 6, 4095, 4096, -1, -5, MOST, LEAST}) {
                due.is("rule(" + i + ", " + what + ") of five", x.rule(i, what), NONE);
            }
            x.begin(5);
            due.is("rule(1, " + what + ") of none, where five were", x.rule(1, what), NONE);
            due.is("rule(0, " + what + ") of no rules", everySet(12).rule(0, what), NONE);
        }
    }

    @Edge(promise = 12, words = "BAD, before that: another what.",
        broken = {"if (what < 0 || what > 2) { return BAD; } Rules rules = baseRules(); "
            + "=> Rules rules = baseRules(); if (i < 0 || i >= rules.size()) { return NONE; } if (what < 0 || what > "
            + "2) { return BAD; }",
            "what < 0 || what > 2 => what > 2", "what < 0 || what > 2 => what < 0 || what > 3",
            "what < 0 || what > 2 => what < 0",
            "what < 0 || what > 2 => what < 0 || what > 1"})
    static void promise12BadBeforeNone(Due due) {
        ConceptTable x = five();
        for (int what : new int[] {3, 4, 5, -1, -2, MOST, LEAST}) {
            for (int i : new int[] {0, 4, 5, -1, MOST, LEAST}) {
                due.is("rule(" + i + ", " + what + ")", x.rule(i, what), BAD);
            }
            due.is("rule(0, " + what + ") of no rules", everySet(2).rule(0, what), BAD);
        }
        due.is("rule(4, 2)", x.rule(4, 2), 0);
        due.is("rule(0, 0)", x.rule(0, 0), 16);
    }

    @Edge(promise = 12, words = "BAD, before that: another what.",
        broken = "public int rule(int i, int what) { => public int rule(int i, int what) { inquiry.stop();")
    static void promise12BadChangesNothing(Due due) {
        changesNothingAnywhere(due, "rule(0, 3)", x -> x.rule(0, 3), BAD);
        changesNothingAnywhere(due, "rule(LEAST, LEAST)", x -> x.rule(LEAST, LEAST), BAD);
    }

    // Promise 13: follows

    @Edge(promise = 13, words = "by the first n rules of THE BASE",
        broken = {"Math.min(most, size)) => Math.min(Math.max(most, 1), size))", "Math.min(most, size)) => size)"})
    static void promise13TheFirstN(Due due) {
        ConceptTable x = five();
        for (int set = 0; set < 32; set++) {
            due.is("follows(" + set + ", 0)", x.follows(set, 0), set);
        }
        due.is("follows(16, 1)", x.follows(16, 1), 31);
        due.is("follows(8, 1)", x.follows(8, 1), 8);
        due.is("follows(8, 2)", x.follows(8, 2), 12);
        due.is("follows(9, 3)", x.follows(9, 3), 13);
        due.is("follows(9, 4)", x.follows(9, 4), 15);
        due.is("follows(9, 5)", x.follows(9, 5), 31);
    }

    @Edge(promise = 13, words = "(all, if there are not so many)",
        broken = {"Math.min(most, size)) => most <= size ? most : 0)",
            "Math.min(most, size)) => most <= size ? most : size - 1)",
            "Math.min(most, size)) => Math.min(most & 255, size))",
            "n < 0) { return BAD; } => n < 0 || n > baseRules().size()) { return BAD; }"})
    static void promise13AllIfNotSoMany(Due due) {
        for (int n : new int[] {5, 6, 7, 256, 4096, MOST - 1, MOST}) {
            due.is("follows(9, " + n + ") of five", five().follows(9, n), 31);
            due.is("follows(1, " + n + ") of five", five().follows(1, n), 3);
            due.is("follows(2, " + n + ") of no rules", everySet(3).follows(2, n), 2);
        }
    }

    @Edge(promise = 13, words = "the least set with it that KEEPS them all",
        broken = {"pass <= MOST_ATTRIBUTES => pass < 1", "pass <= MOST_ATTRIBUTES => pass < 4"})
    static void promise13UntilAllAreKept(Due due) {
        // Rules 12 > 14, 10 > 14, 6 > 14, 1 > 3: only when the last one has worked does the third one.
        ConceptTable x = table(4, 2, 4, 3, 14, 8);
        due.is("base()", x.base(), 4);
        due.is("follows(5, 3)", x.follows(5, 3), 5);
        due.is("follows(5, 4)", x.follows(5, 4), 15);
        // Here the rules, gone through in their order, give something more five times.
        ConceptTable y = table(9, 2, 69, 111, 68, 0, 114, 300, 64, 53, 216, 432);
        due.is("base() of nine", y.base(), 19);
        due.is("follows(81, 19)", y.follows(81, 19), 511);
    }

    @Edge(promise = 13, words = "What FOLLOWS from a set by rules",
        broken = {"if (Sets.hasAll(set, premises[i])) { set |= "
            + "=> if (premises[i] != 0 && Sets.hasAll(set, premises[i])) { set |=",
            "n < 0) { return BAD; } => n < 0 || set == 0) { return BAD; }"})
    static void promise13FromTheEmptySetAndFromAll(Due due) {
        due.is("from none, a rule with no IF", table(12).follows(0, 1), 4095);
        due.is("from none, a rule with no IF, not used", table(12).follows(0, 0), 0);
        due.is("from none, THEN less than all", table(3, 6, 2).follows(0, 1), 2);
        due.is("from none of five", five().follows(0, 5), 0);
        due.is("from all of five", five().follows(31, 5), 31);
        due.is("from all of twelve", table(12).follows(4095, 1), 4095);
    }

    @Edge(promise = 13, words = "BAD: bits",
        broken = {"if (!table.isAttributeSet(set) || n < 0) => if (n < 0)",
            "if (!table.isAttributeSet(set) || n < 0) => if (set > table.allAttributes() || n < 0)",
            "if (!table.isAttributeSet(set) || n < 0) => if (set < 0 || n < 0)"})
    static void promise13Bits(Due due) {
        badBeyond(due, "follows by none", (x, set) -> x.follows(set, 0));
        badBeyond(due, "follows by all", (x, set) -> x.follows(set, MOST));
        badBeyond(due, "follows by n below 0", (x, set) -> x.follows(set, -1));
    }

    @Edge(promise = 13, words = "BAD: bits, or n below 0.",
        broken = {"|| n < 0) { return BAD; } => ) { return BAD; }", "|| n < 0) { => || n == -1) {",
            "|| n < 0) { => || n < -1) {"})
    static void promise13NBelow0(Due due) {
        for (int n : new int[] {-1, -2, -5, LEAST}) {
            due.is("follows(0, " + n + ")", five().follows(0, n), BAD);
            due.is("follows(31, " + n + ")", five().follows(31, n), BAD);
            due.is("follows(0, " + n + ") of no rules", everySet(1).follows(0, n), BAD);
        }
    }

    @Edge(promise = 13, words = "BAD: bits, or n below 0.",
        broken = "public int follows(int set, int n) { => public int follows(int set, int n) { inquiry.stop();")
    static void promise13BadChangesNothing(Due due) {
        changesNothingAnywhere(due, "follows(0, -1)", x -> x.follows(0, -1), BAD);
        changesNothingAnywhere(due, "follows(64, 0)", x -> x.follows(64, 0), BAD);
    }

    // Promise 14: holds

    @Edge(promise = 14, words = "Whether all OBJECTS' sets KEEP a rule",
        broken = "asNumber(Sets.hasAll(table.closureOf(premise) "
            + "=> asNumber(table.size() > 0 && Sets.hasAll(table.closureOf(premise)")
    static void promise14NoObjects(Due due) {
        due.is("holds(0, 4095)", table(12).holds(0, 4095), 1);
        due.is("holds(0, 1) of one attribute", table(1).holds(0, 1), 1);
        due.is("holds(0, 0)", table(12).holds(0, 0), 1);
    }

    @Edge(promise = 14, words = "if it has not all of IF",
        broken = "Sets.hasAll(table.closureOf(premise), => Sets.hasAll(table.closureOf(premise & -premise),")
    static void promise14NotAllOfIf(Due due) {
        due.is("holds(9, 31), which none has", five().holds(9, 31), 1);
        due.is("holds(16, 31), which none has", five().holds(16, 31), 1);
        due.is("holds(5, 8), which one has", five().holds(5, 8), 0);
        due.is("holds(4095, 1) of 20", alike(12, 4094, 20).holds(4095, 1), 1);
    }

    @Edge(promise = 14, words = "or all of THEN",
        broken = {"asNumber(Sets.hasAll(table.closureOf(premise), conclusion)) "
            + "=> asNumber(conclusion != 0 && Sets.hasAll(table.closureOf(premise), conclusion))",
            "asNumber(Sets.hasAll(table.closureOf(premise), conclusion)) "
            + "=> asNumber((table.closureOf(premise) & conclusion) != 0)",
            "asNumber(Sets.hasAll(table.closureOf(premise), conclusion)) "
            + "=> asNumber(premise == 0 || Sets.hasAll(table.closureOf(premise), conclusion))"})
    static void promise14EmptyIfAndThen(Due due) {
        due.is("holds(0, 0)", five().holds(0, 0), 1);
        due.is("holds(3, 0)", five().holds(3, 0), 1);
        due.is("holds(31, 31)", five().holds(31, 31), 1);
        due.is("holds(0, 4), not in one", five().holds(0, 4), 0);
        due.is("holds(0, 2), in all", table(3, 6, 2).holds(0, 2), 1);
        due.is("holds(1, 6), a part of THEN", table(3, 3).holds(1, 6), 0);
    }

    @Edge(promise = 14, words = "Whether all OBJECTS' sets KEEP a rule",
        broken = "if (Sets.hasAll(rows[i], set)) { closed &= => if (i < 19 && Sets.hasAll(rows[i], set)) { closed &=")
    static void promise14TheLastOf20(Due due) {
        ConceptTable x = alike(12, 3, 19);
        due.is("holds(1, 2) of 19", x.holds(1, 2), 1);
        x.object(1);
        due.is("holds(1, 2) of 20", x.holds(1, 2), 0);
        due.is("holds(2, 1) of 20", x.holds(2, 1), 1);
    }

    @Edge(promise = 14, words = "BAD: bits.",
        broken = {"!table.isAttributeSet(premise) || !table.isAttributeSet(conclusion) "
            + "=> !table.isAttributeSet(premise)",
            "!table.isAttributeSet(premise) || !table.isAttributeSet(conclusion) => !table.isAttributeSet(conclusion)",
            "!table.isAttributeSet(premise) || !table.isAttributeSet(conclusion) "
            + "=> !table.isAttributeSet(premise) && !table.isAttributeSet(conclusion)"})
    static void promise14Bits(Due due) {
        badBeyond(due, "holds, IF", (x, set) -> x.holds(set, 0));
        badBeyond(due, "holds, THEN", (x, set) -> x.holds(0, set));
        badBeyond(due, "holds, THEN of all", (x, set) -> x.holds(1, set));
        badBeyond(due, "holds, both", (x, set) -> x.holds(set, set));
    }

    @Edge(promise = 14, words = "BAD: bits.",
        broken = "public int holds(int premise, int conclusion) { "
            + "=> public int holds(int premise, int conclusion) { inquiry.stop();")
    static void promise14BadChangesNothing(Due due) {
        changesNothingAnywhere(due, "holds(64, 0)", x -> x.holds(64, 0), BAD);
        changesNothingAnywhere(due, "holds(0, 64)", x -> x.holds(0, 64), BAD);
    }

    // Promise 15: needed

    @Edge(promise = 15, words = "(all OBJECTS, if there are none such)",
        broken = {"return extentOf(wider) != own; => return wider == 0 || extentOf(wider) != own;",
            "return extentOf(wider) != own; => return wider != 0 && extentOf(wider) != own;"})
    static void promise15NoneSuch(Due due) {
        due.is("the only one, all have it", table(1, 1).needed(0), 0);
        due.is("the only one, none has it", table(1, 0).needed(0), 1);
        due.is("the only one, some have it", table(1, 1, 0).needed(0), 1);
        due.is("all of 20 have it", alike(12, 2048, 20).needed(11), 0);
        due.is("all have it, of three", table(3, 3, 2, 6).needed(1), 0);
        for (int k = 0; k < 12; k++) {
            due.is("without objects " + k, table(12).needed(k), 0);
            due.is("of every set " + k, everySet(12).needed(k), 1);
        }
    }

    @Edge(promise = 15, words = "those other ATTRIBUTES together whose EXTENTS have all of its EXTENT, and more",
        broken = {"if (Sets.hasAllAndMore(extentOf(1 << k), own)) { wider "
            + "=> if (k != attribute && Sets.hasAll(extentOf(1 << k), own)) { wider",
            "k < attributes; k++) { if (Sets.hasAllAndMore => k < attributes - 1; k++) { if (Sets.hasAllAndMore"})
    static void promise15AndMore(Due due) {
        due.is("one just like it", table(2, 3, 0).needed(0), 1);
        due.is("one that has more", table(2, 3, 2).needed(0), 1);
        due.is("two that have more, and just it together", table(3, 7, 3, 5).needed(1), 1);
        due.is("two that have more, and it together", table(3, 7, 1, 2).needed(2), 0);
        due.is("two behind it that have more, and it together", table(3, 7, 2, 4).needed(0), 0);
        due.is("one that no object has", five().needed(4), 0);
    }

    @Edge(promise = 15, words = "(So of several alike all are, or none.)",
        broken = "if (Sets.hasAllAndMore(extentOf(1 << k), own)) { wider "
            + "=> if (Sets.hasAllAndMore(extentOf(1 << k), own) || k < attribute && extentOf(1 << k) == own) { wider")
    static void promise15SeveralAlike(Due due) {
        for (int k = 0; k < 12; k++) {
            due.is("all are, " + k, table(12, 4095, 0).needed(k), 1);
        }
        due.is("none is, 2", table(4, 15, 1, 2).needed(2), 0);
        due.is("none is, 3", table(4, 15, 1, 2).needed(3), 0);
        due.is("the other ones are, 0", table(4, 15, 1, 2).needed(0), 1);
        due.is("the other ones are, 1", table(4, 15, 1, 2).needed(1), 1);
    }

    @Edge(promise = 15, words = "Whether an ATTRIBUTE is NEEDED (1 or 0). BAD.",
        broken = {"number >= 0 && number < attributes => number >= 0 && number <= attributes",
            "number >= 0 && number < attributes => number < attributes",
            "number >= 0 && number < attributes => (number & 31) < attributes",
            "number >= 0 && number < attributes => number >= 0 && number < MOST_ATTRIBUTES"})
    static void promise15NoSuchAttribute(Due due) {
        for (int n : new int[] {1, 6, 12}) {
            for (int wrong : notBelow(n)) {
                due.is("needed(" + wrong + ") of " + n, table(n).needed(wrong), BAD);
                due.is("needed(" + wrong + ") of " + n + " with objects", everySet(n).needed(wrong), BAD);
            }
            due.is("the last of " + n, everySet(n).needed(n - 1), 1);
        }
    }

    @Edge(promise = 15, words = "BAD.",
        broken = "public int needed(int attribute) { => public int needed(int attribute) { inquiry.stop();")
    static void promise15BadChangesNothing(Due due) {
        changesNothingAnywhere(due, "needed(12)", x -> x.needed(12), BAD);
        changesNothingAnywhere(due, "needed(-1)", x -> x.needed(-1), BAD);
    }

    // Promise 16: neededObject

    @Edge(promise = 16, words = "(all ATTRIBUTES, if there are none such)",
        broken = {"return commonOf(richer) != own; => return richer == 0 || commonOf(richer) != own;",
            "return commonOf(richer) != own; => return richer != 0 && commonOf(richer) != own;"})
    static void promise16NoneSuch(Due due) {
        due.is("the only one, with all", table(12, 4095).neededObject(0), 0);
        due.is("the only one, with none", table(12, 0).neededObject(0), 1);
        due.is("the only one, with all but one", table(12, 4094).neededObject(0), 1);
        due.is("one with all among 20", alike(3, 7, 20).neededObject(19), 0);
        due.is("one with none among 20", alike(3, 0, 20).neededObject(19), 1);
    }

    @Edge(promise = 16, words = "those OBJECTS whose sets have all of it, and more",
        broken = {"if (Sets.hasAllAndMore(rows[i], own)) { richer "
            + "=> if (i != object && Sets.hasAll(rows[i], own)) { richer",
            "i < size; i++) { if (Sets.hasAllAndMore => i < size - 1; i++) { if (Sets.hasAllAndMore"})
    static void promise16AndMore(Due due) {
        due.is("one just like it", table(2, 1, 1).neededObject(0), 1);
        due.is("one that has more", table(3, 1, 3).neededObject(0), 1);
        due.is("two that have more, and just it together", table(3, 1, 3, 5).neededObject(0), 0);
        due.is("two before it that have more", table(3, 3, 5, 1).neededObject(2), 0);
        due.is("one that has all", table(3, 1, 7).neededObject(0), 1);
        due.is("none in common, without any", table(3, 0, 3, 4).neededObject(0), 0);
    }

    @Edge(promise = 16, words = "(So of several alike all are, or none.)",
        broken = "if (Sets.hasAllAndMore(rows[i], own)) { richer "
            + "=> if (Sets.hasAllAndMore(rows[i], own) || i < object && rows[i] == own) { richer")
    static void promise16SeveralAlike(Due due) {
        ConceptTable x = alike(12, 7, 20);
        for (int i = 0; i < 20; i++) {
            due.is("all are, " + i, x.neededObject(i), 1);
        }
        ConceptTable y = table(3, 1, 3, 5, 1);
        due.is("none is, 0", y.neededObject(0), 0);
        due.is("none is, 3", y.neededObject(3), 0);
    }

    @Edge(promise = 16, words = "Whether an OBJECT is NEEDED (1 or 0). BAD.",
        broken = {"table.isObject(object) ? asNumber => object >= 0 && object < MOST_OBJECTS ? asNumber",
            "table.isObject(object) ? asNumber => object < table.size() ? asNumber",
            "table.isObject(object) ? asNumber => (object & 31) < table.size() ? asNumber",
            "table.isObject(object) ? asNumber => object >= 0 && object <= table.size() ? asNumber"})
    static void promise16NoSuchObject(Due due) {
        for (int size : new int[] {0, 1, 3, 20}) {
            for (int wrong : notBelow(size)) {
                due.is("neededObject(" + wrong + ") of " + size, alike(3, 0, size).neededObject(wrong), BAD);
            }
        }
        ConceptTable x = table(3, 1, 2);
        x.remove(0);
        due.is("neededObject(1) after remove(0) of two", x.neededObject(1), BAD);
    }

    @Edge(promise = 16, words = "BAD.",
        broken = "public int neededObject(int object) { => public int neededObject(int object) { inquiry.stop();")
    static void promise16BadChangesNothing(Due due) {
        changesNothingAnywhere(due, "neededObject(20)", x -> x.neededObject(20), BAD);
        changesNothingAnywhere(due, "neededObject(-1)", x -> x.neededObject(-1), BAD);
    }
}
