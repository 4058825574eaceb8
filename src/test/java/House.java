/** A house for tests: texts go in as strings, and every answer that isn't the one due is printed. */
final class House {
    private static int wrong = 0;
    private SchemeHouse house = new SchemeHouse();
    private String last = "";

    /** A new house. */
    void fresh() {
        house = new SchemeHouse();
        last = "";
    }

    SchemeHouse get() {
        return house;
    }

    /** The text goes to the tape. */
    void feed(String text) {
        last = text;
        for (int i = 0; i < text.length(); i += 20) {
            int[] words = new int[5];
            for (int j = 0; j < 20; j++) {
                int c = i + j < text.length() ? text.charAt(i + j) : 0;
                words[j / 4] = words[j / 4] << 8 | c;
            }
            if (!house.feed(words[0], words[1], words[2], words[3], words[4])) throw new IllegalStateException("full");
        }
        if (!house.end(text.length())) throw new IllegalStateException("short");
    }

    void input(String text) {
        feed(text);
        due("input()", house.input(), text.length());
    }

    String told(int what) {
        StringBuilder text = new StringBuilder();
        for (int i = 0; i < house.count(what); i++) text.append((char) house.told(what, i));
        return text.toString();
    }

    /** The text is evaluated: how it has to end, the RESULT. */
    void due(String text, int ended, String result) {
        feed(text);
        due("evaluate()", house.evaluate(), ended);
        due("RESULT", told(1), result);
    }

    /** The text is evaluated: how it has to end, the RESULT, the OUTPUT, WORK. */
    void due(String text, int ended, String result, String output, int work) {
        due(text, ended, result);
        due("OUTPUT", told(0), output);
        due("WORK", house.count(2), work);
    }

    /** As above, with long texts told by their sums. */
    void dueSums(String text, int ended, int resultSum, int outputSum, int work) {
        feed(text);
        due("evaluate()", house.evaluate(), ended);
        due("sum(1)", house.sum(1), resultSum);
        due("sum(0)", house.sum(0), outputSum);
        due("WORK", house.count(2), work);
    }

    void due(String what, int got, int want) {
        if (got != want) complain(what, Integer.toString(got), Integer.toString(want));
    }

    void due(String what, boolean got, boolean want) {
        if (got != want) complain(what, Boolean.toString(got), Boolean.toString(want));
    }

    void due(String what, String got, String want) {
        if (!got.equals(want)) complain(what, got, want);
    }

    private void complain(String what, String got, String want) {
        wrong++;
        String text = last.length() > 200 ? last.substring(0, 200) + ".." : last;
        System.out.println(what + " answered " + got + ", due is " + want + "; the text was " + text);
    }

    /** Ends the test: exit code 1 if an answer was not the one due. */
    static void finish() {
        System.out.println(wrong == 0 ? "all answers are as due" : wrong + " answers are not as due");
        if (wrong != 0) System.exit(1);
    }
}
