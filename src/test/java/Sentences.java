/** What the tests share that go through the document sentence by sentence. */
abstract class Sentences {
    static final int LOW = Integer.MIN_VALUE;
    static final int HIGH = Integer.MAX_VALUE;

    final Checks checks = new Checks();

    /** The words that the answers after this are looked at for. */
    final void sentence(String words) {
        checks.sentence(words);
    }

    final void due(String call, long got, long want) {
        checks.due(call, got, want);
    }

    final void due(String call, boolean got, boolean want) {
        checks.due(call, got, want);
    }

    /** Three servers, of which any two are a quorum, and each holds whole blocks. */
    static Run three(int d) {
        return new Run(3, 1, d);
    }
}
