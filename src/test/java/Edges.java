/**
 * Tests of single sentences of the document: a quoted sentence comes first, and the checks that follow, up
 * to the next one, would fail if it were broken. All that such tests print tells the sentence.
 */
abstract class Edges {
    /** What all tests of sentences share: the document and the checks. */
    static final class Record {
        final Document document;
        final Check check = new Check();
        private String sentence = "no sentence";
        private int checksBefore = -1;

        Record(Document document) {
            this.document = document;
        }

        private void quote(String place, String quoted) {
            endSentence();
            sentence = place + ", \"" + quoted + "\"";
            check.due(sentence + " stands in the document", document.quote(place, quoted), true);
            checksBefore = check.count();
        }

        /** A quote without a check would be no test. */
        private void endSentence() {
            if (checksBefore == check.count()) {
                check.due(sentence + " has checks", false, true);
            }
        }

        /** Prints the faults, and which sentences nobody has quoted; the exit code is 1 if there was one. */
        void end() {
            endSentence();
            for (String piece : document.unquoted()) {
                check.due("a test quotes " + piece, false, true);
            }
            check.end();
        }
    }

    private final Record record;

    Edges(Record record) {
        this.record = record;
    }

    /** Carries out all tests. */
    abstract void test();

    final void quote(String place, String sentence) {
        record.quote(place, sentence);
    }

    final void due(String what, Object got, Object want) {
        record.check.due(record.sentence + ": " + what, got, want);
    }

    final void dueIndex(String what, Check.Order order) {
        record.check.dueIndex(record.sentence + ": " + what, order);
    }

    final void dueArgument(String what, Check.Order order) {
        record.check.dueArgument(record.sentence + ": " + what, order);
    }

    final void dueState(String what, Check.Order order) {
        record.check.dueState(record.sentence + ": " + what, order);
    }
}
