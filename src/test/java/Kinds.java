import java.util.ArrayList;
import java.util.List;

/** The KINDS again, as classes of Java, to compare their ACTS with. */
final class Kinds {
    private static final StringBuilder RAN = new StringBuilder();

    private static int ran(int body) {
        RAN.append(body).append(' ');
        return 0;
    }

    private interface Starts {
        int n();

        default int starts(int x) {
            return ran(1) + x + n();
        }
    }

    private interface Tells {
        int hums(int x);

        int says(int x);

        default int tells(int x) {
            return ran(2) + hums(x) - says(1);
        }
    }

    private static class Singing implements Starts, Tells {
        int n;

        public int n() {
            return n;
        }

        public int hums(int x) {
            return ran(10) + starts(x) * 2;
        }

        public int says(int x) {
            return ran(11) + (x ^ n);
        }

        public int starts(int x) {
            return Starts.super.starts(x);
        }

        public int tells(int x) {
            return Tells.super.tells(x);
        }
    }

    private static class Tuned extends Singing {
        public int starts(int x) {
            return ran(20) + super.starts(x) + 3;
        }
    }

    private static class Worded extends Singing {
        public int hums(int x) {
            return ran(30) - super.hums(x);
        }
    }

    private static class Rhymed extends Worded {
        public int says(int x) {
            return ran(40) + super.says(x) * 3;
        }

        public int hums(int x) {
            return ran(41) + super.hums(x + 1);
        }
    }

    private static class Round extends Tuned {
        public int tells(int x) {
            return ran(50) + (super.tells(x) ^ 5);
        }
    }

    private static class Stuck extends Rhymed {
        public int says(int x) {
            return ran(60) + super.says(x) - starts(2);
        }

        public int tells(int x) {
            return ran(61) + super.tells(x) + 1;
        }
    }

    private static class Whole extends Singing {
        public int starts(int x) {
            return ran(70) + super.starts(x) * 2;
        }
    }

    private static class Psalm extends Whole {
        public int hums(int x) {
            return ran(80) + super.hums(x) + says(2);
        }

        public int starts(int x) {
            return ran(81) + super.starts(x) - 1;
        }
    }

    /** What an ACT of a BODY of a KIND, whose number is n, gives with x. */
    static int acted(int kind, int n, int act, int x) {
        Singing[] all = {new Singing(), new Tuned(), new Worded(), new Rhymed(), new Round(), new Stuck(),
            new Whole(), new Psalm()};
        Singing body = all[kind];
        body.n = n;
        RAN.setLength(0);
        switch (act) {
            case 0: return body.starts(x);
            case 1: return body.hums(x);
            case 2: return body.says(x);
            default: return body.tells(x);
        }
    }

    /** The numbers of the bodies that ran in the latest ACT. */
    static List<Integer> trace() {
        List<Integer> all = new ArrayList<>();
        for (String body : RAN.toString().trim().split(" ")) all.add(Integer.valueOf(body));
        return all;
    }
}
