/** A run of calls on an object; what they answer is not looked at. */
interface Script {
    void on(Face x);

    Script NOTHING = x -> { };

    default Script then(Script next) {
        return x -> {
            on(x);
            next.on(x);
        };
    }

    /** A call that may throw, as one that is refused or at which the power fails. */
    default Script thenRefused(Ask ask) {
        return then(x -> Due.answer(ask, x));
    }
}
