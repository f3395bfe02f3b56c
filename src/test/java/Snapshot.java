/** All that can be seen of an object, as a text; the looks are calls, so they count among the 512. */
final class Snapshot {
    private Snapshot() {
    }

    static String of(Run x, int n, int l) {
        StringBuilder text = new StringBuilder("quorum=" + x.quorum());
        for (int c = 0; c < 5; c++) {
            text.append(" phase(" + c + ")=" + x.phase(c));
            text.append(" heard(" + c + ")=" + x.heard(c));
            text.append(" tag(" + c + ")=" + x.tag(c));
            text.append(" result(" + c + ")=" + x.result(c));
            text.append(" finished(" + c + ")=" + x.finished(c));
            for (int s = 0; s < n; s++) {
                text.append(" requests(" + c + ", " + s + ")=" + x.requests(c, s));
                text.append(" replies(" + c + ", " + s + ")=" + x.replies(c, s));
            }
        }
        for (int s = 0; s < n; s++) {
            int held = x.held(s);
            text.append(" held(" + s + ")=" + held + " seal(" + s + ")=" + x.seal(s));
            for (int i = 0; i < held; i++) {
                int tag = x.heldTag(s, i);
                text.append(" tag " + tag + ":");
                for (int r = 0; r < l; r++) {
                    text.append(" " + x.fragment(s, tag, r));
                }
            }
        }
        return text.toString();
    }
}
