/** What a bureau is asked. */
interface Question {
    long of(ShortWork x);
}
