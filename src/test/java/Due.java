/** The exceptions of the document, by their plain names, and numbers on the far side of an edge. */
final class Due {
    static final String INDEX = "IndexOutOfBoundsException";
    static final String ARGUMENT = "IllegalArgumentException";
    static final String STATE = "IllegalStateException";
    static final String MISSING = "NoSuchElementException";
    static final String UNSUPPORTED = "UnsupportedOperationException";
    static final String ARITHMETIC = "ArithmeticException";

    private Due() {
    }

    static int[] below(int least) {
        return new int[] {least - 1, -1, Integer.MIN_VALUE};
    }

    static int[] above(int most) {
        return new int[] {most + 1, Integer.MAX_VALUE};
    }
}
