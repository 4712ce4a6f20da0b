/** What the tests by sentence share: each wrong answer is told with the sentence of the document that it breaks. */
final class Due {
    private static String sentence = "";
    private static int sentences;
    private static int answers;
    private static int wrong;

    private Due() {
    }

    /** Where the sentence stands in the document, and its words. */
    static void sentence(String where, String words) {
        sentence = where + ", \"" + words.trim() + "\"";
        sentences++;
    }

    static void same(String what, Object got, Object due) {
        answers++;
        if (!got.equals(due)) {
            wrong++;
            System.out.println(sentence + ": " + what + " answered " + got + ", due is " + due);
        }
    }

    static void end() {
        System.out.println(sentences + " sentences, " + answers + " answers, " + wrong + " of them not as due");
        if (wrong != 0) {
            System.exit(1);
        }
    }
}
