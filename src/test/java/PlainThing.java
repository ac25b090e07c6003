import java.util.List;

/** A thing of a KIND whose bodies are looked up by KIND and ACT, from its own KIND upwards. */
final class PlainThing {
    private static final int SAILS = 0, CALLS = 1, SHARES = 2, WEDS = 3;
    /** Of each KIND (girl, shared, bred, twice, late, calm) the bodies of the four ACTS; 0: it has none of its own. */
    private static final int[][] BODIES = {
        {10, 11, 12, 13}, {20, 0, 0, 0}, {0, 30, 0, 0}, {50, 0, 0, 51}, {0, 0, 40, 0}, {0, 60, 61, 0}
    };

    private final int kind;
    private final int n;
    private final int a;
    private final List<Integer> trace;

    PlainThing(int kind, int n, int a, List<Integer> trace) {
        this.kind = kind;
        this.n = n;
        this.a = a;
        this.trace = trace;
    }

    int run(int act, int x) {
        return from(kind, act, x);
    }

    private int from(int at, int act, int x) {
        int k = at;
        while (BODIES[k][act] == 0) {
            k = PlainCoast.PARENT[k];
        }
        return body(k, BODIES[k][act], x);
    }

    private int body(int k, int body, int x) {
        if (trace.size() < 30) {
            trace.add(body);
        }
        int above = PlainCoast.PARENT[k];
        switch (body) {
            case 10: return x * 3 - n;
            case 11: return run(SAILS, x) + a;
            case 12: return x % (n - a);
            case 13: return run(CALLS, x) - run(SHARES, x);
            case 20: return from(above, SAILS, x) - 2;
            case 30: return from(above, CALLS, x) ^ n;
            case 40: return from(above, SHARES, x) * 2;
            case 50: return from(above, SAILS, x + 1);
            case 51: return from(above, WEDS, x) + run(CALLS, a);
            case 60: return 1 - from(above, CALLS, x);
            case 61: return from(above, SHARES, x) ^ run(SAILS, n);
            default: throw new IllegalStateException("body " + body);
        }
    }
}
