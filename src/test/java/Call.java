/** A call, or some calls, on a bureau. */
interface Call {
    void on(ShortWork x);
}
