/** Sentences of the document, and the runs that test them. */
final class Bounds {
    /** Page 0 leads to 1, 2; 1 to 2, 0, 3; 2 to 3; 3 to 4, 4; 4 to itself. */
    static final String PAGES = "w5;l1,2;l2,0,3;l3;l4,4;l4;";
    /** A ring of four pages, the first of which also leads to itself. */
    static final String RING = "w4;l1,0;l2;l3;l0;";
    /** As many pages as there may be, in a ring. */
    static final String EIGHT = "w8;l1;l2;l3;l4;l5;l6;l7;l0;";

    private final Checks checks = new Checks();
    private String sentence = "";
    private int sentences = 0;

    /** The sentence that is tested from now on, in the document's own words. */
    void says(String words) {
        sentence = words;
        sentences++;
        checks.yes("the document says \"" + words + "\"", Document.says(words));
    }

    /** A new object. */
    Run fresh() {
        return new Run(checks, sentence);
    }

    /** An object that has read a web. */
    Run on(String tape) {
        int tabs = tape.replaceAll("[^psngk]", "").length();
        return fresh().reads(tape, tabs);
    }

    void due(String call, long got, long want) {
        checks.due("\"" + sentence + "\": " + call, got, want);
    }

    void end() {
        System.out.print(sentences + " sentences, ");
        checks.end();
    }
}
