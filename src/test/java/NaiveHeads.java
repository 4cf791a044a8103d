import java.util.ArrayList;
import java.util.List;

/** HEADS as Java's own classes and interfaces, so that Java's own rules find the bodies. */
final class NaiveHeads {
    private NaiveHeads() {
    }

    interface Says {
        int n();

        List<Integer> trace();

        default int says(int x) {
            trace().add(1);
            return x + n();
        }
    }

    interface Tells {
        List<Integer> trace();

        int stands(int x);

        int moves(int x);

        default int tells(int x) {
            trace().add(2);
            return stands(x) - moves(1);
        }
    }

    static class Head implements Says, Tells {
        int kind;
        int n;
        List<Integer> trace = new ArrayList<>();

        @Override public int n() {
            return n;
        }

        @Override public List<Integer> trace() {
            return trace;
        }

        @Override public int stands(int x) {
            trace.add(10);
            return says(x) * 2;
        }

        @Override public int moves(int x) {
            trace.add(11);
            return x ^ n;
        }
    }

    static class Quiet extends Head {
        @Override public int says(int x) {
            trace.add(20);
            return super.says(x) + 3;
        }
    }

    static class Troubled extends Head {
        @Override public int stands(int x) {
            trace.add(30);
            return -super.stands(x);
        }
    }

    static class Changed extends Troubled {
        @Override public int moves(int x) {
            trace.add(40);
            return super.moves(x) * 3;
        }

        @Override public int stands(int x) {
            trace.add(41);
            return super.stands(x + 1);
        }
    }

    static class Put extends Quiet {
        @Override public int moves(int x) {
            trace.add(50);
            return super.moves(x) - says(2);
        }
    }

    static class Lying extends Changed {
        @Override public int tells(int x) {
            trace.add(60);
            return super.tells(x) ^ 5;
        }
    }

    static class Grown extends Head {
        @Override public int says(int x) {
            trace.add(70);
            return super.says(x) * 2;
        }
    }

    static class Missed extends Put {
        @Override public int stands(int x) {
            trace.add(80);
            return super.stands(x) + moves(2);
        }

        @Override public int tells(int x) {
            trace.add(81);
            return super.tells(x) - 1;
        }
    }

    static Head make(int kind, int n) {
        Head head = switch (kind) {
            case 1 -> new Quiet();
            case 2 -> new Troubled();
            case 3 -> new Changed();
            case 4 -> new Put();
            case 5 -> new Lying();
            case 6 -> new Grown();
            case 7 -> new Missed();
            default -> new Head();
        };
        head.kind = kind;
        head.n = n;
        return head;
    }

    static boolean isUnder(Head head, int k) {
        Class<?>[] kinds = {Head.class, Quiet.class, Troubled.class, Changed.class, Put.class, Lying.class, Grown.class, Missed.class};
        return kinds[k].isInstance(head);
    }

    static int act(Head head, int act, int x) {
        head.trace.clear();
        return switch (act) {
            case 0 -> head.says(x);
            case 1 -> head.stands(x);
            case 2 -> head.moves(x);
            default -> head.tells(x);
        };
    }
}
