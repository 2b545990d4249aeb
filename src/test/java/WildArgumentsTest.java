/** Every call with arguments from everywhere: it throws only what the document says, and never the machine itself. */
public final class WildArgumentsTest {
    private static final int[] WILD = {Integer.MIN_VALUE, Integer.MIN_VALUE + 1, -1000, -10, -2, -1, 0, 1, 2, 3, 4, 5, 6,
        9, 10, 11, 12, 20, 50, 51, 99, 100, 101, 110, 111, 120, 121, 996, 997, 999, 1000, 1110, 1111, 1234, 9990, 9999,
        10000, 10001, 11111, 12340, 1 << 30, Integer.MAX_VALUE - 1, Integer.MAX_VALUE};

    private final Due due = new Due();
    private long state = 5;

    private int below(int bound) {
        state = state * 6364136223846793005L + 1442695040888963407L;
        return (int) ((state >>> 33) % bound);
    }

    private int any() {
        return below(3) == 0 ? WILD[below(WILD.length)] : below(6);
    }

    private long call(ZoneTree tree, int kind) {
        boolean flag = below(2) == 0;
        switch (kind) {
            case 0: return tree.zone(any(), any());
            case 1: return tree.need(any(), any(), flag);
            case 2: return tree.put(any(), any(), any(), any());
            case 3: return tree.drop(any(), any());
            case 4: return tree.update(any()) ? 1 : 0;
            case 5: return tree.zoneHas(any(), any());
            case 6: return tree.record(any(), any(), any());
            case 7: return tree.bringUp(any());
            case 8: tree.setDead(any(), flag); return 0;
            case 9: return tree.ask(any(), any(), any());
            case 10: return tree.told(any());
            case 11: return tree.neighbour(any(), any(), flag);
            case 12: return tree.resolve(any(), any());
            case 13: return tree.resolveAnew(any(), any());
            case 14: return tree.forget();
            case 15: return tree.pass(any());
            case 16: return tree.setKey(any(), any(), any());
            case 17: tree.setWindow(any(), any(), any()); return 0;
            case 18: return tree.setAnchor(any());
            default: return tree.trust(any(), any());
        }
    }

    /** Whether a call may throw that: I an index, A an argument, S a state. */
    private static boolean isDocumented(int kind, RuntimeException thrown) {
        String[] may = {"AS", "AS", "AS", "AS", "I", "IA", "IA", "I", "I", "IAS", "A", "IA", "A", "A", "", "A", "IA",
            "IA", "A", "A"};
        Class<?> type = thrown.getClass();
        String sign = type == IndexOutOfBoundsException.class ? "I"
            : type == IllegalArgumentException.class ? "A" : type == IllegalStateException.class ? "S" : "?";
        return may[kind].contains(sign);
    }

    private void run() {
        ZoneTree tree = new ZoneTree();
        for (int i = 0; i < 512; i++) {
            int kind = below(20);
            try {
                call(tree, kind);
                due.is("call " + kind, true, true);
            } catch (RuntimeException e) {
                due.is("call " + kind + " threw " + e, isDocumented(kind, e), true);
            }
        }
    }

    public static void main(String[] args) {
        WildArgumentsTest test = new WildArgumentsTest();
        for (int i = 0; i < 1000; i++) {
            test.run();
        }
        test.due.end();
    }
}
