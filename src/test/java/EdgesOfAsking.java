/** The edges of promises 18 to 23: asking, and what is counted. */
final class EdgesOfAsking extends Edges {
    private EdgesOfAsking() {
    }

    /** Three attributes, objects 6, 0 and 2, accepted 4 > 6, and the question 1, whether 7 follows. */
    private static ConceptTable askingMore() {
        ConceptTable x = asking();
        x.no(2);
        return x;
    }

    // Promise 18: ask

    @Edge(promise = 18, words = "ASKING begins (anew): THE QUESTION'S set",
        broken = {"open = true; asked = 0; => open = true; asked = Math.max(asked, 0);",
            "open = true; asked = 0; => asked = 0;"})
    static void promise18Anew(Due due) {
        ConceptTable x = five();
        due.is("ask()", x.ask(), 16);
        due.is("yes()", x.yes(), 8);
        due.is("ask() in ASKING", x.ask(), 16);
        due.is("count(3)", x.count(3), 1);
        ConceptTable y = nothingToAsk();
        due.is("ask() without a QUESTION", y.ask(), 0);
        ConceptTable z = noAskingAnyMore();
        due.is("ask() without ASKING", z.ask(), 4);
        due.is("count(3) then", z.count(3), 1);
        due.is("ask() of a full one", fullAndAsking().ask(), 4);
    }

    @Edge(promise = 18, words = "ASKING: begins with no ACCEPTED rules",
        broken = "agreed.clear(); open = true; => open = true;")
    static void promise18NoAcceptedRules(Due due) {
        ConceptTable x = asking();
        x.ask();
        noneAccepted(due, "after ask() in ASKING", x);
        ConceptTable y = noAskingAnyMore();
        y.ask();
        noneAccepted(due, "after ask() without ASKING", y);
        ConceptTable z = nothingToAsk();
        z.ask();
        noneAccepted(due, "after ask() without a QUESTION", z);
    }

    @Edge(promise = 18, words = "NONE: there is none.",
        broken = {"return inquiry.seek(family); } public int question "
            + "=> return Math.max(inquiry.seek(family), 0); } public int question",
            "turn < 1 << attributes && asked != NONE; turn++) { if (!family "
            + "=> turn < (1 << attributes) - 1; turn++) { if (!family"})
    static void promise18NoneIfEverySetIsClosed(Due due) {
        for (int n = 1; n <= 12; n++) {
            due.is("of " + n, everySet(n).ask(), NONE);
        }
    }

    @Edge(promise = 18, words = "there is none if there is no such set (ASKING stays, then, too)",
        broken = "return inquiry.seek(family); } public int question "
            + "=> if (inquiry.seek(family) == NONE) { inquiry.stop(); } return inquiry.asked(); } public int question")
    static void promise18AskingWithoutAQuestion(Due due) {
        ConceptTable x = everySet(3);
        due.is("ask()", x.ask(), NONE);
        due.is("count(3)", x.count(3), 1);
        due.is("question()", x.question(), NONE);
        due.is("yes()", x.yes(), BAD);
        due.is("no(0)", x.no(0), BAD);
        due.is("count(3) still", x.count(3), 1);
        due.is("count(2)", x.count(2), 0);
    }

    @Edge(promise = 18, words = "THE QUESTION is the first set in ORDER",
        broken = {"asked = 0; } boolean isOpen => asked = 1; } boolean isOpen",
            "asked = Sets.rightBehind(asked, attributes); => asked = asked + 1 < 1 << attributes ? asked + 1 : NONE;"})
    static void promise18TheFirstInOrder(Due due) {
        for (int n = 1; n <= 12; n++) {
            due.is("the empty set of " + n, table(n).ask(), 0);
            due.is("the empty set of " + n + ", one having all", table(n, all(n)).ask(), 0);
        }
        due.is("the last attribute of twelve", table(12, 0).ask(), 2048);
        due.is("the last set in ORDER that is not closed", table(3, 3, 6, 4, 1).ask(), 5);
        due.is("16 of five", five().ask(), 16);
    }

    @Edge(promise = 18, words = "is not CLOSED (by the OBJECTS that there are then)",
        broken = {"family.meetWith(set); stem.forget(); => stem.forget();", "family.restart(table.attributes()); => ;"})
    static void promise18ByTheObjectsThereAreThen(Due due) {
        ConceptTable x = table(2);
        due.is("without objects", x.ask(), 0);
        x.object(0);
        due.is("with one", x.ask(), 2);
        x.object(2);
        due.is("with two", x.ask(), 1);
        x.object(1);
        due.is("with three", x.ask(), NONE);
        x.remove(1);
        due.is("with two again", x.ask(), 2);
    }

    // Promise 19: question

    @Edge(promise = 19, words = "NONE: there is none, or no ASKING.",
        broken = {"open = false; asked = NONE; } => open = false; }",
            "private int asked = NONE; => private int asked = 0;"})
    static void promise19NoAsking(Due due) {
        due.is("of a new one", new ConceptTable().question(), NONE);
        due.is("of five", five().question(), NONE);
        ConceptTable x = asking();
        x.begin(3);
        due.is("after begin", x.question(), NONE);
        ConceptTable y = asking();
        y.object(0);
        due.is("after object", y.question(), NONE);
        ConceptTable z = asking();
        z.remove(0);
        due.is("after remove", z.question(), NONE);
    }

    @Edge(promise = 19, words = "NONE: there is none",
        broken = {"question() { return inquiry.asked(); => question() { return Math.max(inquiry.asked(), 0);",
            "question() { return inquiry.asked(); "
            + "=> question() { return inquiry.asked() == NONE && inquiry.isOpen() ? BAD : inquiry.asked();"})
    static void promise19ThereIsNone(Due due) {
        ConceptTable x = nothingToAsk();
        due.is("after the last yes()", x.question(), NONE);
        due.is("ASKING stays", x.count(3), 1);
        ConceptTable y = everySet(12);
        y.ask();
        due.is("of every set", y.question(), NONE);
        ConceptTable z = table(1);
        z.ask();
        z.no(0);
        due.is("after the last no()", z.question(), NONE);
        due.is("ASKING stays, too", z.count(3), 1);
    }

    @Edge(promise = 19, words = "THE QUESTION'S set",
        broken = {"question() { return inquiry.asked(); "
            + "=> question() { int asked = inquiry.asked(); inquiry.stop(); return asked;",
            "question() { return inquiry.asked(); "
            + "=> question() { return inquiry.asked() == 0 ? NONE : inquiry.asked();"})
    static void promise19ItStaysTheSame(Due due) {
        ConceptTable x = asking();
        for (int i = 0; i < 3; i++) {
            due.is("question()", x.question(), 2);
        }
        changesNothing(due, "question() in ASKING", Edges::asking, y -> y.question(), 2);
        ConceptTable z = table(12);
        z.ask();
        due.is("the empty set", z.question(), 0);
    }

    @Edge(promise = 19, words = "KEEPS all ACCEPTED rules and is not CLOSED (by the OBJECTS that there are then)",
        broken = {"inquiry.seek(family); return number; => return number;",
            "inquiry.seek(family); return number; => inquiry.start(); inquiry.seek(family); return number;"})
    static void promise19AfterAnAnswer(Due due) {
        ConceptTable x = table(3);
        x.ask();
        x.no(6);
        due.is("the same set, with another CLOSURE", x.question(), 0);
        x.no(0);
        due.is("the next one", x.question(), 4);
        x.yes();
        due.is("the next one that keeps 4 > 6", x.question(), 2);
        x.no(2);
        due.is("the next one that is not closed", x.question(), 1);
    }

    // Promise 20: yes

    @Edge(promise = 20, words = "NONE: there is none then.",
        broken = {"agree(table.closureOf(asked)); return inquiry.seek(family); "
            + "=> agree(table.closureOf(asked)); return Math.max(inquiry.seek(family), 0);",
            "agree(table.closureOf(asked)); return inquiry.seek(family); "
            + "=> agree(table.closureOf(asked)); return inquiry.seek(family) == NONE ? BAD : inquiry.asked();",
            "agree(table.closureOf(asked)); return inquiry.seek(family); "
            + "=> agree(table.closureOf(asked)); if (inquiry.seek(family) == NONE) { inquiry.stop(); } return "
            + "inquiry.asked();"})
    static void promise20NoneThen(Due due) {
        for (int n = 1; n <= 12; n++) {
            ConceptTable x = table(n);
            x.ask();
            due.is("the only yes() of " + n, x.yes(), NONE);
            due.is("ASKING stays", x.count(3), 1);
            due.is("accepted", x.count(2), 1);
        }
        ConceptTable y = five();
        y.ask();
        for (int set : new int[] {8, 2, 1, 15, NONE}) {
            due.is("yes() of five", y.yes(), set);
        }
    }

    @Edge(promise = 20, words = "BAD: there is no QUESTION.",
        broken = {"if (asked == NONE) { return BAD; } inquiry => if (asked == NONE) { return NONE; } inquiry",
            "if (asked == NONE) { return BAD; } inquiry => if (!inquiry.isOpen()) { return BAD; } inquiry",
            "open = false; asked = NONE; } => open = false; }"})
    static void promise20NoQuestion(Due due) {
        due.is("of a new one", new ConceptTable().yes(), BAD);
        due.is("of five, not asked", five().yes(), BAD);
        due.is("after the last yes()", nothingToAsk().yes(), BAD);
        due.is("after ASKING", noAskingAnyMore().yes(), BAD);
        ConceptTable x = asking();
        x.begin(3);
        due.is("after begin", x.yes(), BAD);
        ConceptTable y = asking();
        y.remove(1);
        due.is("after remove", y.yes(), BAD);
        ConceptTable z = everySet(12);
        z.ask();
        due.is("of every set", z.yes(), BAD);
    }

    @Edge(promise = 20, words = "BAD: there is no QUESTION.",
        broken = {"if (asked == NONE) { return BAD; } inquiry "
            + "=> if (asked == NONE) { inquiry.forget(); return BAD; } inquiry",
            "if (asked == NONE) { return BAD; } inquiry => if (asked == NONE) { inquiry.stop(); return BAD; } inquiry",
            "if (asked == NONE) { return BAD; } inquiry "
            + "=> if (asked == NONE) { inquiry.agree(0); return BAD; } inquiry"})
    static void promise20BadChangesNothing(Due due) {
        changesNothing(due, "yes() of a new one", ConceptTable::new, x -> x.yes(), BAD);
        changesNothing(due, "yes() without a QUESTION", Edges::nothingToAsk, x -> x.yes(), BAD);
        changesNothing(due, "yes() after ASKING", Edges::noAskingAnyMore, x -> x.yes(), BAD);
    }

    @Edge(promise = 20, words = "An answer yes: that rule is ACCEPTED.",
        broken = {"agreed.append(asked, closed); => if (asked != 0) { agreed.append(asked, closed); }",
            "!family.isClosed(asked) && agreed.areKeptBy(asked) => !family.isClosed(asked)",
            "yes() { int asked = inquiry.asked(); if (asked == NONE) "
            + "=> yes() { int asked = inquiry.asked(); if (asked == NONE || table.isFull())"})
    static void promise20ThatRuleIsAccepted(Due due) {
        ConceptTable x = table(12);
        x.ask();
        x.yes();
        due.is("IF, the empty set", x.accepted(0, 0), 0);
        due.is("THEN, all", x.accepted(0, 1), 4095);
        ConceptTable y = fullAndAsking();
        due.is("yes() with 20 objects", y.yes(), 1);
        due.is("count(2)", y.count(2), 2);
        due.is("IF", y.accepted(1, 0), 2);
        due.is("THEN", y.accepted(1, 1), 7);
    }

    @Edge(promise = 20, words = "An object is used for at most 512 calls after it has been made",
        broken = {"MOST_CALLS = 512 => MOST_CALLS = 200", "MOST_CALLS = 512 => MOST_CALLS = 206"})
    static void promise20UpToThe512thCall(Due due) {
        ConceptTable x = table(12, MANY_RULES);
        due.is("ask()", x.ask(), x.rule(0, 0));
        for (int i = 0; i < 206; i++) {
            due.is("yes() " + i, x.yes(), x.rule(i + 1, 0));
        }
        due.is("the last yes()", x.yes(), NONE);
        int calls = 1 + 20 + 2 + 2 * 206 + 1;
        for (int i = 206; calls < 512; i--) {
            due.is("accepted(" + i + ", 1), a call after " + calls, x.accepted(i, 1), x.rule(i, 1));
            calls += 2;
        }
    }

    // Promise 21: no

    @Edge(promise = 21, words = "The answer no, by an OBJECT's set: its number.",
        broken = {"inquiry.seek(family); return number; => return inquiry.seek(family);",
            "inquiry.seek(family); return number; => inquiry.seek(family); return Math.min(number, 18);",
            "|| !table.isAttributeSet(set)) { return BAD; } if (!inquiry "
            + "=> || set == 0 || !table.isAttributeSet(set)) { return BAD; } if (!inquiry"})
    static void promise21ItsNumber(Due due) {
        ConceptTable x = table(3);
        x.ask();
        due.is("the first", x.no(6), 0);
        due.is("the second, without any", x.no(0), 1);
        rows(due, "after two answers", x, 6, 0);
        ConceptTable y = alike(3, 0, 19);
        y.ask();
        due.is("the 20th", y.no(4), 19);
        due.is("its set", y.common(1 << 19), 4);
    }

    @Edge(promise = 21, words = "An answer no: an OBJECT more",
        broken = {"int number = addRow(set); => inquiry.stop(); int number = addRow(set);",
            "int number = addRow(set); => inquiry.agreed().clear(); int number = addRow(set);"})
    static void promise21AskingStays(Due due) {
        ConceptTable x = askingMore();
        due.is("count(3)", x.count(3), 1);
        due.is("count(2)", x.count(2), 1);
        due.is("count(1)", x.count(1), 3);
        ConceptTable y = table(1);
        y.ask();
        due.is("the last answer", y.no(0), 0);
        due.is("count(3) without a QUESTION", y.count(3), 1);
    }

    @Edge(promise = 21, words = "BAD: there is no QUESTION",
        broken = {"if (asked == NONE || !table.isAttributeSet(set)) "
            + "=> if (!inquiry.isOpen() || !table.isAttributeSet(set))",
            "if (asked == NONE || !table.isAttributeSet(set)) => if (!table.isAttributeSet(set))"})
    static void promise21NoQuestion(Due due) {
        for (int set : new int[] {0, 1, 3}) {
            due.is("no(" + set + ") of a new one", new ConceptTable().no(set), BAD);
            due.is("no(" + set + ") of five, not asked", five().no(set), BAD);
            due.is("no(" + set + ") after the last yes()", nothingToAsk().no(set), BAD);
            due.is("no(" + set + ") after ASKING", noAskingAnyMore().no(set), BAD);
            ConceptTable x = everySet(2);
            x.ask();
            due.is("no(" + set + ") of every set", x.no(set), BAD);
        }
        ConceptTable y = alike(2, 3, 20);
        y.ask();
        y.yes();
        due.is("no(0) without a QUESTION, before FULL", y.no(0), BAD);
    }

    @Edge(promise = 21, words = "BAD: there is no QUESTION, or bits",
        broken = {"if (asked == NONE || !table.isAttributeSet(set)) => if (asked == NONE)",
            "if (asked == NONE || !table.isAttributeSet(set)) => if (asked == NONE || set < 0)",
            "if (asked == NONE || !table.isAttributeSet(set)) => if (asked == NONE || set > table.allAttributes())"})
    static void promise21Bits(Due due) {
        for (int n : new int[] {1, 6, 12}) {
            ConceptTable x = table(n);
            x.ask();
            for (int wrong : beyond(n)) {
                due.is("no(" + wrong + ") of " + n, x.no(wrong), BAD);
            }
            due.is("question() of " + n, x.question(), 0);
            due.is("no(0) of " + n, x.no(0), 0);
        }
    }

    @Edge(promise = 21, words = "which has all of the question's set",
        broken = "return Sets.hasAll(set, asked) && !Sets => return !Sets")
    static void promise21NotAllOfTheQuestionsSet(Due due) {
        ConceptTable x = asking();
        for (int set : new int[] {0, 1, 4, 5}) {
            due.is("no(" + set + "), the question being 2", x.no(set), AGAINST);
        }
        due.is("no(2)", x.no(2), 2);
        ConceptTable y = table(3, 6, 4, 3, 1);
        due.is("ask()", y.ask(), 5);
        due.is("no(1), a part of it", y.no(1), AGAINST);
        due.is("no(4), another part of it", y.no(4), AGAINST);
        due.is("no(5), just it", y.no(5), 4);
    }

    @Edge(promise = 21, words = "not all of its CLOSURE",
        broken = {"&& !Sets.hasAll(set, closed) && agreed => && agreed",
            "&& !Sets.hasAll(set, closed) && agreed => && set != closed && agreed"})
    static void promise21AllOfItsClosure(Due due) {
        ConceptTable x = asking();
        due.is("no(6), just the CLOSURE", x.no(6), AGAINST);
        due.is("no(7), it and more", x.no(7), AGAINST);
        due.is("no(3), not all of it, and more", x.no(3), 2);
        ConceptTable y = table(12);
        y.ask();
        due.is("no(4095), all", y.no(4095), AGAINST);
        due.is("no(4094), all but one", y.no(4094), 0);
    }

    @Edge(promise = 21, words = "and KEEPS all ACCEPTED rules",
        broken = {"&& agreed.areKeptBy(set); => ;",
            "boolean areKeptBy(int set) { for (int i = 0; => boolean areKeptBy(int set) { for (int i = 1;"})
    static void promise21AgainstAnAcceptedRule(Due due) {
        ConceptTable x = askingMore();
        due.is("question()", x.question(), 1);
        due.is("no(5), against 4 > 6", x.no(5), AGAINST);
        due.is("no(1), which lacks 4", x.no(1), 3);
        ConceptTable y = fullAndAsking();
        due.is("no(6), against 4 > 7", y.no(6), AGAINST);
    }

    @Edge(promise = 21, words = "FULL: there are 20.",
        broken = {"if (table.isFull()) { return FULL; } int number "
            + "=> if (table.isFull()) { return AGAINST; } int number",
            "if (table.isFull()) { return FULL; } int number => if (table.size() > 18) { return FULL; } int number",
            "if (table.isFull()) { return FULL; } int number => int number"})
    static void promise21FullThereAre20(Due due) {
        ConceptTable x = alike(3, 0, 19);
        x.ask();
        due.is("the 20th", x.no(4), 19);
        due.is("question()", x.question(), 2);
        due.is("one more", x.no(2), FULL);
        due.is("count(1)", x.count(1), 20);
        due.is("question() still", x.question(), 2);
        due.is("yes() then", x.yes(), 1);
    }

    @Edge(promise = 21, words = "The first of: BAD: there is no QUESTION, or bits; AGAINST: it is not such an OBJECT",
        broken = "if (asked == NONE || !table.isAttributeSet(set)) { return BAD; } "
            + "if (!inquiry.isCounterexample(set, table.closureOf(asked))) { return AGAINST; } "
            + "=> if (asked == NONE) { return BAD; } "
            + "if (!inquiry.isCounterexample(set, table.closureOf(asked))) { return AGAINST; } "
            + "if (!table.isAttributeSet(set)) { return BAD; }")
    static void promise21BadBeforeAgainst(Due due) {
        ConceptTable x = asking();
        due.is("no(8), without the question's set", x.no(8), BAD);
        due.is("no(14), with its CLOSURE", x.no(14), BAD);
        due.is("no(-1), with all", x.no(-1), BAD);
        due.is("no(LEAST), without any", x.no(LEAST), BAD);
        due.is("no(13) against 4 > 6", askingMore().no(13), BAD);
    }

    @Edge(promise = 21, words = "AGAINST: it is not such an OBJECT; FULL: there are 20.",
        broken = {"if (!inquiry.isCounterexample(set, table.closureOf(asked))) { return AGAINST; } "
            + "if (table.isFull()) { return FULL; } "
            + "=> if (table.isFull()) { return FULL; } if (!inquiry.isCounterexample(set, table.closureOf(asked))) { "
            + "return AGAINST; }",
            "no(int set) { int asked = inquiry.asked(); => no(int set) { int asked = inquiry.asked(); "
            + "if (asked != NONE && table.isFull()) { return FULL; }"})
    static void promise21BadAndAgainstBeforeFull(Due due) {
        ConceptTable x = fullAndAsking();
        due.is("no(8), bits", x.no(8), BAD);
        due.is("no(-1), bits", x.no(-1), BAD);
        due.is("no(1), without the question's set", x.no(1), AGAINST);
        due.is("no(7), with its CLOSURE", x.no(7), AGAINST);
        due.is("no(6), against 4 > 7", x.no(6), AGAINST);
        due.is("no(3)", x.no(3), FULL);
    }

    @Edge(promise = 21,
        words = "BAD: there is no QUESTION, or bits; AGAINST: it is not such an OBJECT; FULL: there are 20.",
        broken = {"closureOf(asked))) { return AGAINST; } => closureOf(asked))) { inquiry.stop(); return AGAINST; }",
            "if (table.isFull()) { return FULL; } int number "
            + "=> if (table.isFull()) { inquiry.stop(); return FULL; } int number",
            "if (table.isFull()) { return FULL; } int number "
            + "=> if (table.isFull()) { family.meetWith(set); return FULL; } int number",
            "|| !table.isAttributeSet(set)) { return BAD; } if (!inquiry "
            + "=> || !table.isAttributeSet(set)) { inquiry.stop(); return BAD; } if (!inquiry"})
    static void promise21RefusedChangesNothing(Due due) {
        for (int wrong : new int[] {64, -1, MOST, LEAST}) {
            changesNothingAnywhere(due, "no(" + wrong + ")", x -> x.no(wrong), BAD);
        }
        changesNothing(due, "no(0) of a new one", ConceptTable::new, x -> x.no(0), BAD);
        changesNothing(due, "no(0) without a QUESTION", Edges::nothingToAsk, x -> x.no(0), BAD);
        changesNothing(due, "no(2) after ASKING", Edges::noAskingAnyMore, x -> x.no(2), BAD);
        for (int set : new int[] {0, 1, 6, 7}) {
            changesNothing(due, "no(" + set + ") in ASKING", Edges::asking, x -> x.no(set), AGAINST);
        }
        changesNothing(due, "no(5) in ASKING", EdgesOfAsking::askingMore, x -> x.no(5), AGAINST);
        changesNothing(due, "no(7) of a full one", Edges::fullAndAsking, x -> x.no(7), AGAINST);
        changesNothing(due, "no(2) of a full one", Edges::fullAndAsking, x -> x.no(2), FULL);
        changesNothing(due, "no(3) of a full one", Edges::fullAndAsking, x -> x.no(3), FULL);
    }

    // Promise 22: accepted

    private static void onlyFourThenSix(Due due, String when, ConceptTable x) {
        due.is("how many " + when, x.count(2), 1);
        due.is("IF " + when, x.accepted(0, 0), 4);
        due.is("THEN " + when, x.accepted(0, 1), 6);
        due.is("no second one " + when, x.accepted(1, 0), NONE);
    }

    @Edge(promise = 22, words = "(ACCEPTED rules stay told when there is no ASKING any more, till begin() or ask().)",
        broken = {"void stop() { open = false; => void stop() { agreed.clear(); open = false;",
            "what > 1) { return BAD; } => what > 1) { return BAD; } if (!inquiry.isOpen()) { return NONE; }",
            "what > 1) { return BAD; } => what > 1) { return BAD; } if (inquiry.asked() == NONE) { return NONE; }"})
    static void promise22StayTold(Due due) {
        ConceptTable x = asking();
        onlyFourThenSix(due, "in ASKING", x);
        x.remove(1);
        due.is("ASKING after remove", x.count(3), 0);
        onlyFourThenSix(due, "after remove", x);
        x.object(5);
        onlyFourThenSix(due, "after remove and object", x);
        ConceptTable z = noAskingAnyMore();
        due.is("ASKING after object", z.count(3), 0);
        onlyFourThenSix(due, "after object", z);
        ConceptTable y = nothingToAsk();
        due.is("IF without a QUESTION", y.accepted(0, 0), 0);
        due.is("THEN without a QUESTION", y.accepted(0, 1), 3);
    }

    @Edge(promise = 22, words = "(ACCEPTED rules stay told",
        broken = "what == 0 ? rules.premise(i) : rules.conclusion(i); } public int count "
            + "=> what == 0 || i < 0 || i >= rules.size() ? rules.premise(i) : table.closureOf(rules.premise(i)); } "
            + "public int count")
    static void promise22AsTheyWereAccepted(Due due) {
        ConceptTable x = asking();
        x.object(4);
        due.is("closure(4), by an object against the rule", x.closure(4), 4);
        due.is("THEN", x.accepted(0, 1), 6);
        x.remove(2);
        x.remove(0);
        due.is("closure(4), no object having 4", x.closure(4), 7);
        due.is("THEN still", x.accepted(0, 1), 6);
    }

    @Edge(promise = 22, words = "till begin() or ask()",
        broken = {"agreed.clear(); open = true; => open = true;", "agreed.clear(); stop(); => stop();"})
    static void promise22TillBeginOrAsk(Due due) {
        ConceptTable x = noAskingAnyMore();
        x.begin(13);
        due.is("after begin(13)", x.accepted(0, 0), 4);
        x.ask();
        noneAccepted(due, "after ask()", x);
        ConceptTable y = noAskingAnyMore();
        y.begin(3);
        noneAccepted(due, "after begin(3)", y);
        ConceptTable z = asking();
        z.begin(12);
        noneAccepted(due, "after begin(12)", z);
        z.ask();
        noneAccepted(due, "after begin(12) and ask()", z);
    }

    @Edge(promise = 22, words = "NONE: there is none such",
        broken = {"i >= 0 && i < size ? premises[i] : NONE => i >= 0 && i < premises.length ? premises[i] : NONE",
            "i >= 0 && i < size ? conclusions[i] : NONE => i >= 0 && i < conclusions.length ? conclusions[i] : NONE",
            "i >= 0 && i < size ? premises[i] : NONE => i < size ? premises[Math.max(i, 0)] : NONE",
            "i >= 0 && i < size ? conclusions[i] : NONE => i < size ? conclusions[Math.max(i, 0)] : NONE",
            "Rules rules = inquiry.agreed(); "
            + "=> Rules rules = inquiry.agreed(); if (i >= rules.size()) { return BAD; }"})
    static void promise22NoneSuch(Due due) {
        for (int what = 0; what < 2; what++) {
            for (int i : new int[] {1, 2, 511, 512, -1, -512, MOST, LEAST}) {
                due.is("accepted(" + i + ", " + what + ") of one", asking().accepted(i, what), NONE);
            }
            due.is("accepted(0, " + what + ") of a new one", new ConceptTable().accepted(0, what), NONE);
            ConceptTable x = five();
            x.ask();
            due.is("accepted(0, " + what + ") of none yet", x.accepted(0, what), NONE);
        }
    }

    @Edge(promise = 22, words = "BAD, before that: another what.",
        broken = {"if (what < 0 || what > 1) { return BAD; } Rules rules = inquiry.agreed(); "
            + "=> Rules rules = inquiry.agreed(); if (i < 0 || i >= rules.size()) { return NONE; } if (what < 0 || "
            + "what > 1) { return BAD; }",
            "what < 0 || what > 1 => what > 1", "what < 0 || what > 1 => what < 0",
            "what < 0 || what > 1 => what < 0 || what > 2",
            "what < 0 || what > 1 => what < 0 || what > 0"})
    static void promise22BadBeforeNone(Due due) {
        for (int what : new int[] {2, 3, -1, -2, MOST, LEAST}) {
            for (int i : new int[] {0, 1, -1, MOST, LEAST}) {
                due.is("accepted(" + i + ", " + what + ") of one", asking().accepted(i, what), BAD);
                due.is("accepted(" + i + ", " + what + ") of none", new ConceptTable().accepted(i, what), BAD);
            }
        }
        due.is("accepted(0, 1)", asking().accepted(0, 1), 6);
        due.is("accepted(0, 0)", asking().accepted(0, 0), 4);
    }

    @Edge(promise = 22, words = "BAD, before that: another what.",
        broken = "public int accepted(int i, int what) { => public int accepted(int i, int what) { inquiry.stop();")
    static void promise22BadChangesNothing(Due due) {
        changesNothingAnywhere(due, "accepted(0, 2)", x -> x.accepted(0, 2), BAD);
        changesNothingAnywhere(due, "accepted(LEAST, LEAST)", x -> x.accepted(LEAST, LEAST), BAD);
    }

    // Promise 23: count

    @Edge(promise = 23, words = "What = 0 ATTRIBUTES, 1 OBJECTS",
        broken = {"case 1: return table.size(); => case 1: return Math.min(table.size(), 19);",
            "case 0: return table.attributes(); => case 0: return table.size();"})
    static void promise23AttributesAndObjects(Due due) {
        for (int n = 1; n <= 12; n++) {
            due.is("count(0) of " + n, table(n).count(0), n);
            due.is("count(1) of none", table(n).count(1), 0);
            due.is("count(1) of 20", alike(n, 1, 20).count(1), 20);
        }
    }

    @Edge(promise = 23, words = "2 ACCEPTED rules",
        broken = {"case 2: return inquiry.agreed().size(); "
            + "=> case 2: return inquiry.isOpen() ? inquiry.agreed().size() : 0;",
            "case 2: return inquiry.agreed().size(); => case 2: return Math.min(inquiry.agreed().size(), 1);"})
    static void promise23AcceptedRules(Due due) {
        due.is("of a new one", new ConceptTable().count(2), 0);
        due.is("of one without ASKING", noAskingAnyMore().count(2), 1);
        ConceptTable x = five();
        x.ask();
        for (int i = 0; i < 5; i++) {
            due.is("after so many answers", x.count(2), i);
            x.yes();
        }
        due.is("after the last answer", x.count(2), 5);
        x.yes();
        due.is("after one too many", x.count(2), 5);
    }

    @Edge(promise = 23, words = "3 whether there is ASKING (1 or 0)",
        broken = "case 3: return asNumber(inquiry.isOpen()); => case 3: return asNumber(inquiry.asked() != NONE);")
    static void promise23WhetherThereIsAsking(Due due) {
        due.is("of a new one", new ConceptTable().count(3), 0);
        due.is("in ASKING", asking().count(3), 1);
        due.is("without a QUESTION", nothingToAsk().count(3), 1);
        due.is("after ASKING", noAskingAnyMore().count(3), 0);
    }

    @Edge(promise = 23, words = "4 the greatest LEVEL of a CONCEPT",
        broken = {"case 4: family.arrange(table); => case 4:",
            "family.levelOf(table.allAttributes()) => Math.min(family.levelOf(table.allAttributes()), 11)"})
    static void promise23TheGreatestLevel(Due due) {
        for (int n = 1; n <= 12; n++) {
            due.is("of " + n + " without objects", table(n).count(4), 0);
            due.is("of " + n + " with one that has all", table(n, all(n)).count(4), 0);
            due.is("of " + n + " with one that has none", table(n, 0).count(4), 1);
            due.is("of every set of " + n, everySet(n).count(4), n);
        }
    }

    @Edge(promise = 23, words = "BAD: another what.",
        broken = {"default: return BAD; => default: return NONE;",
            "switch (what) { case 0: return table => switch (what & 7) { case 0: return table"})
    static void promise23AnotherWhat(Due due) {
        for (int wrong : new int[] {5, 6, 8, 12, -1, -4, -8, MOST, LEAST}) {
            changesNothingAnywhere(due, "count(" + wrong + ")", x -> x.count(wrong), BAD);
        }
    }
}
