/** Every small table, and every way of answering on it, whose every answer must be the plain model's. */
public final class SmallTest {
    private static final Due due = new Due("SmallTest");

    public static void main(String[] args) {
        for (int attributes = 1; attributes <= 3; attributes++) {
            int objects = attributes == 3 ? 3 : 4;
            for (int many = 0; many <= objects; many++) {
                everyTable(attributes, many);
            }
        }
        everyAnswer(new Pair(1), 4);
        everyAnswer(new Pair(2), 4);
        everyAnswer(new Pair(3), 4);
        due.end();
    }

    /** A table's sets are the digits of a number, each digit a set. */
    private static void everyTable(int attributes, int many) {
        for (int code = 0; code < 1 << attributes * many && !due.hasWrong(); code++) {
            Pair pair = new Pair(attributes);
            for (int i = 0; i < many; i++) {
                pair.object(code >> attributes * i & (1 << attributes) - 1);
            }
            pair.tellSets();
            pair.tellConcepts();
            pair.tellRules();
            pair.tellNeeded();
            everyObjectLess(pair, many);
        }
    }

    /** Told before the object goes, too, as what was told then must not stay. */
    private static void everyObjectLess(Pair pair, int many) {
        for (int object = -1; object <= many; object++) {
            Pair less = pair.again();
            less.tellInShort();
            less.remove(object);
            less.tellInShort();
        }
    }

    /** Asks, and then goes on from every answer there can be, and from an object more that ends the asking. */
    private static void everyAnswer(Pair start, int deep) {
        Pair asked = start.again();
        asked.ask();
        asked.tellAsking();
        if (deep == 0 || due.hasWrong()) {
            return;
        }
        for (int set = -1; set <= asked.sets(); set++) {
            everyAnswerAfter(asked, set, deep - 1);
        }
        for (int set = 0; set < asked.sets() && deep > 2; set++) {
            Pair more = start.again();
            more.object(set);
            everyAnswer(more, deep - 2);
        }
    }

    /** The set -1 stands for yes. */
    private static void everyAnswerAfter(Pair asked, int set, int deep) {
        Pair pair = asked.again();
        if (set < 0) {
            pair.yes();
        } else {
            pair.no(set);
        }
        pair.tellAsking();
        for (int next = -1; next < pair.sets() && deep > 0 && !due.hasWrong(); next++) {
            everyAnswerAfter(pair, next, deep - 1);
        }
    }

    /** A table and its model, and the calls that may have changed them so far. */
    private static final class Pair {
        private static final int MOST_CHANGES = 20;

        private final int attributes;
        private final String[] names = new String[MOST_CHANGES];
        private final int[] arguments = new int[MOST_CHANGES];
        private int changes = 0;
        private final ConceptTable table = new ConceptTable();
        private final PlainModel model = new PlainModel();

        Pair(int attributes) {
            this.attributes = attributes;
            is("begin", table.begin(attributes), model.begin(attributes));
        }

        int sets() {
            return 1 << attributes;
        }

        Pair again() {
            Pair copy = new Pair(attributes);
            for (int i = 0; i < changes; i++) {
                copy.change(names[i], arguments[i]);
            }
            return copy;
        }

        void object(int set) {
            change("object", set);
        }

        void remove(int object) {
            change("remove", object);
        }

        void ask() {
            change("ask", 0);
        }

        void yes() {
            change("yes", 0);
        }

        void no(int set) {
            change("no", set);
        }

        private void change(String name, int argument) {
            names[changes] = name;
            arguments[changes] = argument;
            changes++;
            switch (name) {
                case "object" -> is(name, table.object(argument), model.object(argument));
                case "remove" -> is(name, table.remove(argument), model.remove(argument));
                case "ask" -> is(name, table.ask(), model.ask());
                case "yes" -> is(name, table.yes(), model.yes());
                default -> is(name, table.no(argument), model.no(argument));
            }
        }

        void tellSets() {
            for (int set = -1; set <= sets(); set++) {
                is("extent " + set, table.extent(set), model.extent(set));
                is("closure " + set, table.closure(set), model.closure(set));
                is("next " + set, table.next(set), model.next(set));
            }
            for (int objects = -1; objects <= 1 << model.count(1); objects++) {
                is("common " + objects, table.common(objects), model.common(objects));
            }
            for (int what = -1; what <= 5; what++) {
                is("count " + what, table.count(what), model.count(what));
            }
        }

        void tellConcepts() {
            is("concepts", table.concepts(), model.concepts());
            for (int i = -1; i <= model.concepts(); i++) {
                for (int what = -1; what <= 5 + attributes; what++) {
                    is("concept " + i + " " + what, table.concept(i, what), model.concept(i, what));
                }
            }
            for (int least = -1; least <= model.count(1) + 1; least++) {
                is("frequent " + least, table.frequent(least), model.frequent(least));
            }
        }

        void tellRules() {
            is("base", table.base(), model.base());
            for (int i = -1; i <= model.base(); i++) {
                for (int what = -1; what <= 3; what++) {
                    is("rule " + i + " " + what, table.rule(i, what), model.rule(i, what));
                }
                for (int set = -1; set <= sets(); set++) {
                    is("follows " + set + " " + i, table.follows(set, i), model.follows(set, i));
                }
            }
            for (int premise = -1; premise <= sets(); premise++) {
                for (int conclusion = -1; conclusion <= sets(); conclusion++) {
                    is("holds " + premise + " " + conclusion,
                        table.holds(premise, conclusion), model.holds(premise, conclusion));
                }
            }
        }

        void tellNeeded() {
            for (int attribute = -1; attribute <= attributes; attribute++) {
                is("needed " + attribute, table.needed(attribute), model.needed(attribute));
            }
            for (int object = -1; object <= model.count(1); object++) {
                is("neededObject " + object, table.neededObject(object), model.neededObject(object));
            }
        }

        void tellInShort() {
            for (int set = 0; set < sets(); set++) {
                is("extent " + set, table.extent(set), model.extent(set));
            }
            for (int i = 0; i <= model.concepts(); i++) {
                is("concept " + i + " 0", table.concept(i, 0), model.concept(i, 0));
                is("concept " + i + " 2", table.concept(i, 2), model.concept(i, 2));
            }
            for (int i = 0; i <= model.base(); i++) {
                is("rule " + i + " 0", table.rule(i, 0), model.rule(i, 0));
                is("rule " + i + " 1", table.rule(i, 1), model.rule(i, 1));
            }
        }

        void tellAsking() {
            is("question", table.question(), model.question());
            for (int what = 0; what < 4; what++) {
                is("count " + what, table.count(what), model.count(what));
            }
            for (int i = 0; i <= model.count(2); i++) {
                is("accepted " + i + " 0", table.accepted(i, 0), model.accepted(i, 0));
                is("accepted " + i + " 1", table.accepted(i, 1), model.accepted(i, 1));
            }
        }

        private void is(String call, int got, int want) {
            if (got != want) {
                due.is(this + ", " + call, got, want);
            } else {
                due.holds("", true);
            }
        }

        @Override
        public String toString() {
            StringBuilder text = new StringBuilder("begin " + attributes);
            for (int i = 0; i < changes; i++) {
                text.append(", ").append(names[i]).append(" ").append(arguments[i]);
            }
            return text.toString();
        }
    }
}
