/** Hands out an object for one call more: a new one as soon as the document's 512 calls come near. */
final class Supply {
    private Manydays object = new Manydays();
    private long change = 577736;
    private int used = 0;

    Manydays get() {
        used++;
        if (used > 500) {
            object = new Manydays();
            object.setChange(change);
            used = 2;
        }
        return object;
    }

    void setChange(long day) {
        change = day;
        get().setChange(day);
    }
}
