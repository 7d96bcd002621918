/** Something asked of an object, by one call or by several. */
interface Ask {
    Object of(Face x);

    static Ask take(int thing, int n) {
        return x -> {
            x.take(thing, n);
            return "void";
        };
    }
}
