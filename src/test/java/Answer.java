import java.util.function.IntSupplier;

/** What a call answers, as one number: also the exceptions that the document names. */
final class Answer {
    static final int INDEX = 1_000_001;
    static final int ARGUMENT = 1_000_002;
    /** Anything else that is thrown, by the machine or by the library. */
    static final int FOREIGN = 1_000_003;

    private Answer() {
    }

    static int of(IntSupplier call) {
        try {
            return call.getAsInt();
        } catch (RuntimeException e) {
            if (!e.getStackTrace()[0].getClassName().startsWith("GuideWords")) {
                return FOREIGN;
            }
            // The machine throws classes below these, so the class itself is looked at.
            if (e.getClass() == IndexOutOfBoundsException.class) {
                return INDEX;
            }
            return e.getClass() == IllegalArgumentException.class ? ARGUMENT : FOREIGN;
        }
    }
}
