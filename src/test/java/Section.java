/** The tests of one part of the document. The name of each test is the sentence that it tests. */
final class Section {
    interface Test {
        void run() throws Exception;
    }

    private final String text;
    private int at = 0;

    Section(Part part) {
        text = part.text();
        System.out.println("-- " + part.begin);
        Expect.holds("the document has the part " + part, !text.isEmpty());
    }

    Section test(String sentence, Test test) {
        int asked = Expect.asked();
        int wrong = Expect.wrong();
        try {
            test.run();
        } catch (Exception | Error e) {
            Expect.holds("ended by " + e, false);
        }
        Expect.holds("the test asks something", Expect.asked() > asked);
        find(sentence);
        System.out.println((Expect.wrong() > wrong ? "BROKEN: " : "holds: ") + sentence);
        return this;
    }

    /** A sentence that no call can show. */
    Section untested(String sentence, String why) {
        find(sentence);
        System.out.println("no test: " + sentence + " (" + why + ")");
        return this;
    }

    /** Sentences are told in the document's order, so that none of them is left out. */
    private void find(String sentence) {
        int found = text.indexOf(sentence, at);
        Expect.holds("the document says next: " + sentence, found >= 0);
        if (found >= 0) {
            nothingIsLeft(text.substring(at, found));
            at = found + sentence.length();
        }
    }

    private static void nothingIsLeft(String between) {
        Expect.holds("this has a test: " + between, between.matches("[\\s.,:;(){}]*"));
    }

    void end() {
        nothingIsLeft(text.substring(at));
        Expect.end();
    }
}
