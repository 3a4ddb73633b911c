/** Hands out objects none of which is used for more than the document's 512 calls. */
final class Fresh {
    private ShortForms object = new ShortForms();
    private int calls = 0;

    ShortForms next() {
        if (calls == 512) {
            object = new ShortForms();
            calls = 0;
        }
        calls++;
        return object;
    }
}
