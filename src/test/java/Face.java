/** The calls of the document's face by their names: a boolean counts 1 or 0, a call without an answer 0. */
interface Face {
    long call(String name, int... a);

    /** What a call answers, in words: a number, or throws. and the exception's name. */
    static String answer(Face face, String name, int... a) {
        try {
            return Long.toString(face.call(name, a));
        } catch (RuntimeException e) {
            return "throws." + e.getClass().getSimpleName();
        }
    }
}
