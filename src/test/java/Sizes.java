/** Every N and K that an object can have, with F and L reckoned by hand. */
record Sizes(int n, int k, int f, int l) {
    static final Sizes[] ALL = {
        new Sizes(3, 1, 1, 8), new Sizes(3, 2, 0, 4), new Sizes(3, 3, 0, 3),
        new Sizes(4, 1, 1, 8), new Sizes(4, 2, 1, 4), new Sizes(4, 3, 0, 3), new Sizes(4, 4, 0, 2),
        new Sizes(5, 1, 2, 8), new Sizes(5, 2, 1, 4), new Sizes(5, 3, 1, 3), new Sizes(5, 4, 0, 2),
        new Sizes(5, 5, 0, 2),
        new Sizes(6, 1, 2, 8), new Sizes(6, 2, 2, 4), new Sizes(6, 3, 1, 3), new Sizes(6, 4, 1, 2),
        new Sizes(6, 5, 0, 2), new Sizes(6, 6, 0, 2),
        new Sizes(7, 1, 3, 8), new Sizes(7, 2, 2, 4), new Sizes(7, 3, 2, 3), new Sizes(7, 4, 1, 2),
        new Sizes(7, 5, 1, 2), new Sizes(7, 6, 0, 2), new Sizes(7, 7, 0, 2),
    };

    int q() {
        return n - f;
    }

    /** The servers 0 .. Q - 1. */
    int[] firstQuorum() {
        return Steps.servers(0, q());
    }

    Run run(int d) {
        return new Run(n, k, d);
    }

    String at() {
        return " with N " + n + ", K " + k;
    }
}
