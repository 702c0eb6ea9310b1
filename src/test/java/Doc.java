/**
 * Names the sentence of ../shared/DOC.md that a test holds, word for word, so that each is found by the other.
 * SentencesTest reads these calls in the tests' sources: their arguments have to be written out.
 */
final class Doc {
    private Doc() {
    }

    /** The section "Promise" of this number. */
    static void promise(int number, String sentence) {
        Due.about("Promise " + number + ", \"" + sentence + "\"");
    }

    /** A part of the section "Terms", or another section. */
    static void terms(String part, String sentence) {
        Due.about(part + ", \"" + sentence + "\"");
    }
}
