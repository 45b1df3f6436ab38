/** The edges of promises 1 to 7: the table itself. */
final class EdgesOfTable extends Edges {
    private EdgesOfTable() {
    }

    // Promise 1: a new object

    @Edge(promise = 1, words = "Six ATTRIBUTES",
        broken = {"FIRST_ATTRIBUTES = 6 => FIRST_ATTRIBUTES = 5", "FIRST_ATTRIBUTES = 6 => FIRST_ATTRIBUTES = 7"})
    static void promise1SixAttributes(Due due) {
        ConceptTable x = new ConceptTable();
        due.is("count(0)", x.count(0), 6);
        due.is("needed(5)", x.needed(5), 0);
        due.is("needed(6)", x.needed(6), BAD);
        due.is("object(64)", x.object(64), BAD);
        due.is("object(63)", x.object(63), 0);
        due.is("closure(0)", x.closure(0), 63);
    }

    @Edge(promise = 1, words = "no OBJECTS",
        broken = "family.restart(FIRST_ATTRIBUTES); } => family.restart(FIRST_ATTRIBUTES); addRow(0); }")
    static void promise1NoObjects(Due due) {
        ConceptTable x = new ConceptTable();
        rows(due, "of a new one", x);
        due.is("extent(0)", x.extent(0), 0);
        due.is("closure(0)", x.closure(0), 63);
        due.is("frequent(1)", x.frequent(1), 0);
        due.is("remove(0)", x.remove(0), BAD);
        due.is("neededObject(0)", x.neededObject(0), BAD);
        due.is("begin(6)", x.begin(6), 0);
    }

    @Edge(promise = 1, words = "Six ATTRIBUTES, no OBJECTS.",
        broken = {"private boolean open; => private boolean open = true;",
            "private int asked = NONE; => private int asked = 0;"})
    static void promise1NothingMore(Due due) {
        ConceptTable x = new ConceptTable();
        notAsking(due, "of a new one", x);
        noneAccepted(due, "of a new one", x);
        concepts(due, "of a new one", x, 63);
        rules(due, "of a new one", x, new int[] {0, 63});
    }

    @Edge(promise = 1, words = "`ConceptTable()`: Six ATTRIBUTES, no OBJECTS.",
        broken = {"private final Table table => private static final Table table",
            "private final Family family => private static final Family family",
            "private final Inquiry inquiry => private static final Inquiry inquiry"})
    static void promise1EachOneIsItsOwn(Due due) {
        ConceptTable x = asking();
        String before = told(x);
        ConceptTable y = new ConceptTable();
        y.begin(2);
        y.object(1);
        y.ask();
        due.same("what the first one tells after a second one", told(x), before);
        due.is("count(0) of a third one", new ConceptTable().count(0), 6);
        due.is("count(1) of a third one", new ConceptTable().count(1), 0);
        due.is("count(2) of a third one", new ConceptTable().count(2), 0);
        due.is("count(3) of a third one", new ConceptTable().count(3), 0);
    }

    // Promise 2: begin

    @Edge(promise = 2, words = "n being 1 .. 12", broken = "attributes < 1 || => attributes < 2 ||")
    static void promise2OneAttribute(Due due) {
        ConceptTable x = new ConceptTable();
        due.is("begin(1)", x.begin(1), 0);
        due.is("count(0)", x.count(0), 1);
        due.is("object(1)", x.object(1), 0);
        due.is("object(0)", x.object(0), 1);
        due.is("object(2)", x.object(2), BAD);
        concepts(due, "of one attribute", x, 0, 1);
        due.is("needed(0)", x.needed(0), 1);
        due.is("needed(1)", x.needed(1), BAD);
    }

    @Edge(promise = 2, words = "n being 1 .. 12",
        broken = "attributes > MOST_ATTRIBUTES) { => attributes >= MOST_ATTRIBUTES) {")
    static void promise2TwelveAttributes(Due due) {
        ConceptTable x = new ConceptTable();
        due.is("begin(12)", x.begin(12), 0);
        due.is("count(0)", x.count(0), 12);
        due.is("object(4095)", x.object(4095), 0);
        due.is("object(2048)", x.object(2048), 1);
        due.is("object(4096)", x.object(4096), BAD);
        concepts(due, "of twelve attributes", x, 2048, 4095);
        due.is("needed(0)", x.needed(0), 1);
        due.is("needed(11)", x.needed(11), 0);
        due.is("needed(12)", x.needed(12), BAD);
    }

    @Edge(promise = 2, words = "So many ATTRIBUTES",
        broken = {"table.restart(attributes); => table.restart(table.attributes());",
            "family.restart(attributes); stem => stem",
            "set < 1 << attributes; set++) { setLevel => set < (1 << attributes) - 1; set++) { setLevel"})
    static void promise2SoManyAttributes(Due due) {
        ConceptTable x = everySet(12);
        int[] widths = {1, 2, 3, 4, 5, 6, 7, 8, 9, 10, 11, 12, 12, 11, 10, 9, 8, 7, 6, 5, 4, 3, 2, 1, 1, 12, 1};
        for (int n : widths) {
            x.begin(n);
            String when = "of " + n;
            due.is("count(0) " + when, x.count(0), n);
            due.is("closure(0) " + when, x.closure(0), all(n));
            due.is("extent of all " + when, x.extent(all(n)), 0);
            due.is("extent beyond " + when, x.extent(all(n) + 1), BAD);
            due.is("needed, the last " + when, x.needed(n - 1), 0);
            due.is("needed, beyond " + when, x.needed(n), BAD);
            concepts(due, when, x, all(n));
            rules(due, when, x, new int[] {0, all(n)});
        }
    }

    @Edge(promise = 2, words = "BAD: not 1 .. 12.",
        broken = {"attributes < 1 || => attributes < 0 ||", "attributes < 1 || => attributes == 0 ||",
            "attributes > MOST_ATTRIBUTES) { => attributes > MOST_ATTRIBUTES + 1) {",
            "attributes < 1 || attributes > MOST_ATTRIBUTES => (attributes & 15) < 1 || (attributes & 15) > 12"})
    static void promise2NotOneToTwelve(Due due) {
        for (int wrong : new int[] {0, 13, 14, 17, 32, 33, 257, -1, -2, -12, -15, MOST, LEAST, LEAST + 6}) {
            due.is("begin(" + wrong + ") of a new one", new ConceptTable().begin(wrong), BAD);
            due.is("begin(" + wrong + ") of objects", five().begin(wrong), BAD);
        }
    }

    @Edge(promise = 2, words = "BAD: not 1 .. 12.",
        broken = {"public int begin(int attributes) { => public int begin(int attributes) { inquiry.stop();",
            "public int begin(int attributes) { => public int begin(int attributes) { inquiry.forget();",
            "MOST_ATTRIBUTES) { return BAD; } => MOST_ATTRIBUTES) { table.restart(table.attributes()); return BAD; }"})
    static void promise2BadChangesNothing(Due due) {
        for (int wrong : new int[] {0, 13, -1, MOST, LEAST}) {
            changesNothingAnywhere(due, "begin(" + wrong + ")", x -> x.begin(wrong), BAD);
        }
    }

    @Edge(promise = 2, words = "and no OBJECTS",
        broken = {"attributes = newAttributes; size = 0; } => attributes = newAttributes; }",
            "family.restart(attributes); stem => stem", "stem.forget(); inquiry.forget(); => inquiry.forget();"})
    static void promise2NoObjects(Due due) {
        ConceptTable x = alike(3, 2, 20);
        rules(due, "of 20", x, new int[] {0, 2}, new int[] {6, 7}, new int[] {3, 7});
        due.is("begin(3)", x.begin(3), 20);
        rows(due, "after begin", x);
        due.is("extent(0)", x.extent(0), 0);
        due.is("remove(0)", x.remove(0), BAD);
        due.is("neededObject(0)", x.neededObject(0), BAD);
        concepts(due, "after begin", x, 7);
        rules(due, "after begin", x, new int[] {0, 7});
        due.is("object(0)", x.object(0), 0);
    }

    @Edge(promise = 2, words = "there is no ASKING",
        broken = "stem.forget(); inquiry.forget(); => stem.forget(); inquiry.agreed().clear();")
    static void promise2NoAsking(Due due) {
        ConceptTable x = asking();
        due.is("begin(3) in ASKING", x.begin(3), 2);
        notAsking(due, "after begin(3) in ASKING", x);
        ConceptTable y = nothingToAsk();
        due.is("begin(12) without a QUESTION", y.begin(12), 1);
        notAsking(due, "after begin(12) without a QUESTION", y);
    }

    @Edge(promise = 2, words = "how many OBJECTS there were",
        broken = {"return objectsBefore; => return table.size();",
            "int objectsBefore = table.size(); => int objectsBefore = Math.min(table.size(), 19);"})
    static void promise2HowManyThereWere(Due due) {
        ConceptTable x = new ConceptTable();
        due.is("begin(2) of a new one", x.begin(2), 0);
        due.is("begin(2) again", x.begin(2), 0);
        ConceptTable y = alike(2, 3, 20);
        due.is("begin(0) of 20", y.begin(0), BAD);
        due.is("begin(2) of 20", y.begin(2), 20);
        due.is("begin(2) then", y.begin(2), 0);
        ConceptTable z = alike(2, 3, 20);
        z.remove(4);
        due.is("begin(2) of 20 less one", z.begin(2), 19);
        due.is("begin(2) of two that were answers", asking().begin(2), 2);
    }

    @Edge(promise = 2, words = "till begin() or ask().",
        broken = "stem.forget(); inquiry.forget(); => stem.forget(); inquiry.stop();")
    static void promise2AcceptedTillBegin(Due due) {
        ConceptTable x = asking();
        due.is("begin(0) in ASKING", x.begin(0), BAD);
        due.is("count(2) till then", x.count(2), 1);
        x.begin(3);
        noneAccepted(due, "after begin(3) in ASKING", x);
        ConceptTable y = noAskingAnyMore();
        due.is("count(2) without ASKING", y.count(2), 1);
        y.begin(3);
        noneAccepted(due, "after begin(3) without ASKING", y);
    }

    // Promise 3: object

    @Edge(promise = 3, words = "OBJECTS, up to 20, are numbered from 0 on",
        broken = {"size++; return size - 1; => size++; return size;",
            "int number = table.append(set); => int number = table.append(set) & 15;"})
    static void promise3ItsNumber(Due due) {
        ConceptTable x = new ConceptTable();
        for (int i = 0; i < 20; i++) {
            due.is("object(" + i + ")", x.object(i), i);
        }
        ConceptTable y = table(3, 1, 2, 4);
        y.remove(0);
        due.is("object(7) after remove(0) of three", y.object(7), 2);
        y.begin(3);
        due.is("object(7) after begin", y.object(7), 0);
    }

    @Edge(promise = 3, words = "a set of them is a number, bit k (the lowest is 0) being attribute k",
        broken = {"object(int set) { if (! => object(int set) { if (set == 0 || !",
            "object(int set) { if (! => object(int set) { if (set == table.allAttributes() || !"})
    static void promise3EmptySetAndAllAttributes(Due due) {
        for (int n = 1; n <= 12; n++) {
            ConceptTable x = table(n);
            due.is("object(0) of " + n, x.object(0), 0);
            due.is("object of all of " + n, x.object(all(n)), 1);
            rows(due, "of " + n, x, 0, all(n));
        }
    }

    @Edge(promise = 3, words = "each with its set of ATTRIBUTES",
        broken = "rows[size] = set; "
            + "=> for (int i = 0; i < size; i++) { if (rows[i] == set) { return i; } } rows[size] = set;")
    static void promise3SeveralAlike(Due due) {
        ConceptTable x = table(3, 5);
        due.is("object(5) again", x.object(5), 1);
        due.is("object(5) once more", x.object(5), 2);
        rows(due, "of three alike", x, 5, 5, 5);
        due.is("extent(5)", x.extent(5), 7);
    }

    @Edge(promise = 3, words = "there is no ASKING then", broken = "inquiry.stop(); return addRow(set); "
            + "=> return addRow(set);")
    static void promise3NoAskingThen(Due due) {
        ConceptTable x = asking();
        due.is("object(2) in ASKING", x.object(2), 2);
        notAsking(due, "after object(2)", x);
        ConceptTable y = nothingToAsk();
        due.is("object(0) without a QUESTION", y.object(0), 1);
        notAsking(due, "after object(0)", y);
    }

    @Edge(promise = 3, words = "BAD: a set with bits beyond ATTRIBUTES",
        broken = {"return Sets.hasAll(allAttributes(), set); => return set <= allAttributes();",
            "return Sets.hasAll(allAttributes(), set); => return set >= 0 && set < MOST_SETS;",
            "return Sets.hasAll(allAttributes(), set); => return (set & (1 << attributes)) == 0;",
            "object(int set) { if (!table.isAttributeSet(set)) => object(int set) { if (set > table.allAttributes())"})
    static void promise3BitsBeyondAttributes(Due due) {
        for (int n : new int[] {1, 3, 6, 12}) {
            ConceptTable x = table(n);
            for (int wrong : beyond(n)) {
                due.is("object(" + wrong + ") of " + n, x.object(wrong), BAD);
            }
            rows(due, "of " + n, x);
        }
    }

    @Edge(promise = 3, words = "FULL: there are 20.",
        broken = {"return size >= rows.length; => return size >= rows.length - 1;",
            "MOST_OBJECTS = 20 => MOST_OBJECTS = 21",
            "if (table.isFull()) { return FULL; } inquiry => if (table.isFull()) { return BAD; } inquiry"})
    static void promise3FullThereAre20(Due due) {
        for (int n : new int[] {1, 12}) {
            ConceptTable x = alike(n, 1, 19);
            due.is("the 20th of " + n, x.object(1), 19);
            due.is("one more of " + n, x.object(1), FULL);
            due.is("one more of " + n + ", without any", x.object(0), FULL);
            due.is("one more of " + n + ", with all", x.object(all(n)), FULL);
            due.is("count(1) of " + n, x.count(1), 20);
        }
    }

    @Edge(promise = 3, words = "OBJECTS, up to 20", broken = "size--; return set; => return set;")
    static void promise3RoomAgainAfterRemove(Due due) {
        ConceptTable x = alike(3, 1, 20);
        x.object(2);
        x.remove(7);
        due.is("the 20th again", x.object(5), 19);
        due.is("its set", x.common(1 << 19), 5);
        due.is("one more", x.object(5), FULL);
        x.begin(3);
        due.is("the first after begin", x.object(5), 0);
    }

    @Edge(promise = 3, words = "The first of: BAD: a set with bits beyond ATTRIBUTES; FULL: there are 20.",
        broken = "if (!table.isAttributeSet(set)) { return BAD; } if (table.isFull()) { return FULL; } "
            + "=> if (table.isFull()) { return FULL; } if (!table.isAttributeSet(set)) { return BAD; }")
    static void promise3BadBeforeFull(Due due) {
        ConceptTable x = alike(3, 0, 20);
        for (int wrong : beyond(3)) {
            due.is("object(" + wrong + ") of 20", x.object(wrong), BAD);
        }
        due.is("object(7) of 20", x.object(7), FULL);
    }

    @Edge(promise = 3, words = "BAD: a set with bits beyond ATTRIBUTES",
        broken = {"public int object(int set) { => public int object(int set) { inquiry.stop();",
            "public int object(int set) { => public int object(int set) { inquiry.forget();"})
    static void promise3BadChangesNothing(Due due) {
        for (int wrong : new int[] {64, 4096, -1, MOST, LEAST}) {
            changesNothingAnywhere(due, "object(" + wrong + ")", x -> x.object(wrong), BAD);
        }
        changesNothing(due, "object(8) in ASKING", Edges::asking, x -> x.object(8), BAD);
    }

    @Edge(promise = 3, words = "FULL: there are 20.",
        broken = {"if (table.isFull()) { return FULL; } inquiry.stop(); "
            + "=> inquiry.stop(); if (table.isFull()) { return FULL; }",
            "if (table.isFull()) { return FULL; } inquiry "
            + "=> if (table.isFull()) { family.meetWith(set); return FULL; } inquiry"})
    static void promise3FullChangesNothing(Due due) {
        changesNothing(due, "object(0) of 20", () -> alike(3, 0, 20), x -> x.object(0), FULL);
        changesNothing(due, "object(2) of 20 in ASKING", Edges::fullAndAsking, x -> x.object(2), FULL);
    }

    // Promise 4: remove

    @Edge(promise = 4, words = "those behind it are one less",
        broken = {"for (int i = object + 1; i < size => for (int i = object + 2; i < size",
            "rows[i - 1] = rows[i]; } => rows[i - 1] = rows[i - 1]; }",
            "size; i++) { rows[i - 1] => size - 1; i++) { rows[i - 1]"})
    static void promise4ThoseBehindAreOneLess(Due due) {
        ConceptTable x = table(3, 1, 2, 4, 7);
        due.is("the first", x.remove(0), 1);
        rows(due, "without the first", x, 2, 4, 7);
        due.is("the one between", x.remove(1), 4);
        rows(due, "without the one between", x, 2, 7);
        ConceptTable y = new ConceptTable();
        for (int i = 0; i < 20; i++) {
            y.object(i);
        }
        due.is("the first of 20", y.remove(0), 0);
        rows(due, "of 19", y, 1, 2, 3, 4, 5, 6, 7, 8, 9, 10, 11, 12, 13, 14, 15, 16, 17, 18, 19);
    }

    @Edge(promise = 4, words = "An OBJECT goes",
        broken = "boolean isObject(int number) { return number >= 0 && number < size; } "
            + "=> boolean isObject(int number) { return number >= 0 && number < size - 1; }")
    static void promise4TheLastGoes(Due due) {
        ConceptTable x = table(3, 1, 2, 4);
        due.is("the last of three", x.remove(2), 4);
        rows(due, "without the last", x, 1, 2);
        ConceptTable y = alike(3, 1, 19);
        y.object(6);
        due.is("the last of 20", y.remove(19), 6);
        due.is("count(1)", y.count(1), 19);
        due.is("the same again", y.remove(19), BAD);
    }

    @Edge(promise = 4, words = "An OBJECT goes", broken = "family.restart(table.attributes()); => ;")
    static void promise4TheOnlyOneGoes(Due due) {
        ConceptTable x = table(3, 5);
        due.is("the only one", x.remove(0), 5);
        due.is("none is left", x.remove(0), BAD);
        due.same("what is told then", told(x), told(table(3)));
    }

    @Edge(promise = 4, words = "An OBJECT goes",
        broken = {"family.meetWith(table.row(i)); => ;", "stem.forget(); return set; => return set;",
            "restart(table.attributes()); for (int i = 0; => restart(table.attributes()); for (int i = 1;"})
    static void promise4AsIfItHadNotBeen(Due due) {
        for (int gone = 0; gone < 4; gone++) {
            int[] sets = {3, 6, 5, 12};
            ConceptTable x = table(4, sets);
            told(x);
            x.remove(gone);
            ConceptTable y = table(4);
            for (int i = 0; i < 4; i++) {
                if (i != gone) {
                    y.object(sets[i]);
                }
            }
            due.same("what is told without object " + gone, told(x), told(y));
        }
    }

    @Edge(promise = 4, words = "its set",
        broken = "int set = table.takeOut(object); "
            + "=> int set = table.row(object) == 0 ? BAD : table.row(object); table.takeOut(object);")
    static void promise4ItsSet(Due due) {
        ConceptTable x = table(12, 0, 4095, 2048, 1);
        due.is("of the empty set", x.remove(0), 0);
        due.is("of all", x.remove(0), 4095);
        due.is("of the last attribute", x.remove(0), 2048);
        due.is("of the first attribute", x.remove(0), 1);
    }

    @Edge(promise = 4, words = "there is no ASKING then", broken = "inquiry.stop(); int set = table => int set = table")
    static void promise4NoAskingThen(Due due) {
        ConceptTable x = asking();
        due.is("remove(1) in ASKING", x.remove(1), 0);
        notAsking(due, "after remove(1)", x);
        ConceptTable y = nothingToAsk();
        due.is("remove(0) without a QUESTION", y.remove(0), 3);
        notAsking(due, "after remove(0)", y);
    }

    @Edge(promise = 4, words = "BAD: no such one.",
        broken = {"boolean isObject(int number) { return number >= 0 && number < size; "
            + "=> boolean isObject(int number) { return number >= 0 && number <= size && size > 0;",
            "boolean isObject(int number) { return number >= 0 && => boolean isObject(int number) { return",
            "boolean isObject(int number) { return number >= 0 && number < size; "
            + "=> boolean isObject(int number) { return (number & 31) < size;"})
    static void promise4NoSuchOne(Due due) {
        for (int size : new int[] {0, 1, 3, 20}) {
            for (int wrong : notBelow(size)) {
                due.is("remove(" + wrong + ") of " + size, alike(3, 1, size).remove(wrong), BAD);
            }
        }
    }

    @Edge(promise = 4, words = "BAD: no such one.",
        broken = {"public int remove(int object) { => public int remove(int object) { inquiry.stop();",
            "public int remove(int object) { => public int remove(int object) { inquiry.forget();"})
    static void promise4BadChangesNothing(Due due) {
        for (int wrong : new int[] {20, -1, MOST, LEAST}) {
            changesNothingAnywhere(due, "remove(" + wrong + ")", x -> x.remove(wrong), BAD);
        }
        changesNothing(due, "remove(2) of two in ASKING", Edges::asking, x -> x.remove(2), BAD);
        changesNothing(due, "remove(0) of none", ConceptTable::new, x -> x.remove(0), BAD);
    }

    // Promise 5: common

    @Edge(promise = 5, words = "(all ATTRIBUTES of no objects)",
        broken = {"int set = allAttributes(); for => int set = objects == 0 ? 0 : allAttributes(); for",
            "int set = allAttributes(); for => int set = size == 0 ? 0 : allAttributes(); for"})
    static void promise5AllAttributesOfNoObjects(Due due) {
        for (int n = 1; n <= 12; n++) {
            due.is("common(0) of " + n + ", there being none", table(n).common(0), all(n));
            due.is("common(0) of " + n + ", there being one", table(n, 0).common(0), all(n));
            due.is("common(0) of " + n + ", there being 20", alike(n, 0, 20).common(0), all(n));
        }
    }

    @Edge(promise = 5, words = "the ATTRIBUTES that all of them have",
        broken = "if ((objects & (1 << i)) != 0) => if (i < 19 && (objects & (1 << i)) != 0)")
    static void promise5All20(Due due) {
        ConceptTable x = alike(12, 4095, 19);
        x.object(1);
        due.is("of all", x.common(TWENTY), 1);
        due.is("of the last", x.common(1 << 19), 1);
        due.is("of the other ones", x.common(TWENTY >> 1), 4095);
    }

    @Edge(promise = 5, words = "the ATTRIBUTES that all of them have",
        broken = "table.isObjectSet(objects) ? table.commonOf(objects) : BAD "
            + "=> table.isObjectSet(objects) && table.commonOf(objects) != 0 ? table.commonOf(objects) : BAD")
    static void promise5NothingInCommon(Due due) {
        due.is("of 1 and 2", table(2, 1, 2).common(3), 0);
        due.is("of one without any", table(2, 0).common(1), 0);
        due.is("of all of five", five().common(7), 0);
    }

    @Edge(promise = 5, words = "BAD: bits beyond those there are.",
        broken = {"Sets.hasAll(Sets.allOf(size), set) => Sets.hasAll(Sets.allOf(rows.length), set)",
            "Sets.hasAll(Sets.allOf(size), set) => set <= Sets.allOf(size)",
            "Sets.hasAll(Sets.allOf(size), set) => (set & (1 << size)) == 0"})
    static void promise5BitsBeyondThoseThereAre(Due due) {
        for (int size : new int[] {0, 1, 3, 20}) {
            ConceptTable x = alike(12, 4095, size);
            for (int wrong : beyond(size)) {
                due.is("common(" + wrong + ") of " + size, x.common(wrong), BAD);
            }
        }
        ConceptTable y = five();
        y.remove(0);
        due.is("common(4) after remove(0) of three", y.common(4), BAD);
        y.begin(5);
        due.is("common(1) after begin", y.common(1), BAD);
    }

    @Edge(promise = 5, words = "BAD: bits beyond those there are.",
        broken = "public int common(int objects) { => public int common(int objects) { inquiry.stop();")
    static void promise5BadChangesNothing(Due due) {
        changesNothingAnywhere(due, "common(1 << 20)", x -> x.common(1 << 20), BAD);
        changesNothingAnywhere(due, "common(-1)", x -> x.common(-1), BAD);
    }

    // Promise 6: extent

    @Edge(promise = 6, words = "the OBJECTS that have all of them",
        broken = "int objects = 0; for (int i = 0; i < size; => int objects = 0; for (int i = 0; i < size && set != 0;")
    static void promise6OfTheEmptySet(Due due) {
        due.is("of none", table(12).extent(0), 0);
        due.is("of three", five().extent(0), 7);
        due.is("of one without any", table(1, 0).extent(0), 1);
        due.is("of 20", alike(12, 0, 20).extent(0), TWENTY);
    }

    @Edge(promise = 6, words = "the OBJECTS that have all of them",
        broken = {"int objects = 0; for => int objects = 0; if (set == allAttributes()) { return 0; } for",
            "objects |= 1 << i; } } return objects; => objects |= 1 << i; } } return objects & 524287;"})
    static void promise6OfAllAttributes(Due due) {
        due.is("of none", table(12).extent(4095), 0);
        due.is("none has all", five().extent(31), 0);
        due.is("two have all", table(3, 7, 3, 7).extent(7), 5);
        due.is("one attribute", table(1, 0, 1).extent(1), 2);
        due.is("of 20", alike(12, 4095, 20).extent(4095), TWENTY);
    }

    @Edge(promise = 6, words = "BAD, likewise.",
        broken = {"return table.isAttributeSet(set) ? table.extentOf(set) : BAD; => return table.extentOf(set);",
            "return table.isAttributeSet(set) ? table.extentOf(set) : BAD; "
            + "=> return set <= table.allAttributes() ? table.extentOf(set) : BAD;",
            "return table.isAttributeSet(set) ? table.extentOf(set) : BAD; "
            + "=> return set >= 0 ? table.extentOf(set) : BAD;"})
    static void promise6BitsBeyondAttributes(Due due) {
        badBeyond(due, "extent", (x, set) -> x.extent(set));
    }

    @Edge(promise = 6, words = "BAD, likewise.",
        broken = "public int extent(int set) { => public int extent(int set) { inquiry.stop();")
    static void promise6BadChangesNothing(Due due) {
        changesNothingAnywhere(due, "extent(64)", x -> x.extent(64), BAD);
        changesNothingAnywhere(due, "extent(-1)", x -> x.extent(-1), BAD);
    }

    // Promise 7: closure

    @Edge(promise = 7, words = "CLOSURE of a set of ATTRIBUTES: COMMON of its EXTENT",
        broken = "int closed = allAttributes(); => int closed = size == 0 ? set : allAttributes();")
    static void promise7AllAttributesThereBeingNoObjects(Due due) {
        for (int n = 1; n <= 12; n++) {
            due.is("of the empty set, " + n, table(n).closure(0), all(n));
            due.is("of the last one, " + n, table(n).closure(1 << n - 1), all(n));
            due.is("of all, " + n, table(n).closure(all(n)), all(n));
        }
    }

    @Edge(promise = 7, words = "(all ATTRIBUTES of no objects)",
        broken = "int closed = allAttributes(); => int closed = extentOf(set) == 0 ? set : allAttributes();")
    static void promise7OfWhatNoObjectHas(Due due) {
        due.is("closure(16)", five().closure(16), 31);
        due.is("closure(9)", five().closure(9), 31);
        due.is("closure(1) of one without any", table(12, 0).closure(1), 4095);
    }

    @Edge(promise = 7, words = "CLOSURE of a set of ATTRIBUTES: COMMON of its EXTENT",
        broken = "int closureOf(int set) { => int closureOf(int set) { if (set == 0) { return 0; }")
    static void promise7OfTheEmptySet(Due due) {
        due.is("what all have", table(3, 6, 2).closure(0), 2);
        due.is("all have all", table(3, 7, 7).closure(0), 7);
        due.is("nothing that all have", five().closure(0), 0);
        due.is("of 20", alike(12, 2049, 20).closure(0), 2049);
    }

    @Edge(promise = 7, words = "It is CLOSED if it is its CLOSURE.",
        broken = "int closed = allAttributes(); => int closed = extentOf(set) == 0 ? 0 : allAttributes();")
    static void promise7OfAllAttributes(Due due) {
        due.is("that one has", table(3, 7).closure(7), 7);
        due.is("that none has", table(3, 6, 5).closure(7), 7);
        due.is("that none of 20 has", alike(12, 0, 20).closure(4095), 4095);
        due.is("of one attribute", table(1, 0).closure(1), 1);
    }

    @Edge(promise = 7, words = "BAD, likewise.",
        broken = {"return table.isAttributeSet(set) ? table.closureOf(set) : BAD; => return table.closureOf(set);",
            "return table.isAttributeSet(set) ? table.closureOf(set) : BAD; "
            + "=> return set <= table.allAttributes() ? table.closureOf(set) : BAD;",
            "return table.isAttributeSet(set) ? table.closureOf(set) : BAD; "
            + "=> return set >= 0 ? table.closureOf(set) : BAD;"})
    static void promise7BitsBeyondAttributes(Due due) {
        badBeyond(due, "closure", (x, set) -> x.closure(set));
    }

    @Edge(promise = 7, words = "BAD, likewise.",
        broken = "public int closure(int set) { => public int closure(int set) { inquiry.stop();")
    static void promise7BadChangesNothing(Due due) {
        changesNothingAnywhere(due, "closure(64)", x -> x.closure(64), BAD);
        changesNothingAnywhere(due, "closure(-1)", x -> x.closure(-1), BAD);
    }
}
