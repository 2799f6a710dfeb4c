import java.util.NoSuchElementException;

/** The exceptions that the document names. */
enum Fault {
    IOOBE(IndexOutOfBoundsException.class),
    IAE(IllegalArgumentException.class),
    UOE(UnsupportedOperationException.class),
    NSEE(NoSuchElementException.class),
    ISE(IllegalStateException.class),
    AE(ArithmeticException.class);

    final Class<? extends RuntimeException> thrown;

    Fault(Class<? extends RuntimeException> thrown) {
        this.thrown = thrown;
    }

    String named() {
        return thrown.getSimpleName();
    }
}
