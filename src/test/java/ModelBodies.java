import java.util.List;

/** The kinds of bodies as real classes, so that the Java machine itself says which body runs. */
final class ModelBodies {
    static final List<Class<?>> CLASSES = List.of(Way.class, Mirror.class, Even.class, Shy.class,
        Rule.class, Best.class, Told.class, Lost.class);

    private ModelBodies() {
    }

    static Way made(int kind, int n) {
        Way way = kind == 0 ? new Way() : kind == 1 ? new Mirror() : kind == 2 ? new Even() : kind == 3 ? new Shy()
            : kind == 4 ? new Rule() : kind == 5 ? new Best() : kind == 6 ? new Told() : new Lost();
        way.n = n;
        return way;
    }

    interface Lights {
        void ran(int number);

        int number();

        default int lights(int x) {
            ran(1);
            return x + number();
        }
    }

    interface Tells {
        void ran(int number);

        int shows(int x);

        int rests(int x);

        default int tells(int x) {
            ran(2);
            return shows(x) - rests(1);
        }
    }

    static class Way implements Lights, Tells {
        int n;
        List<Integer> ran;

        @Override public void ran(int number) {
            ran.add(number);
        }

        @Override public int number() {
            return n;
        }

        @Override public int shows(int x) {
            ran(10);
            return lights(x) * 2;
        }

        @Override public int rests(int x) {
            ran(11);
            return x ^ n;
        }
    }

    static class Mirror extends Way {
        @Override public int lights(int x) {
            ran(20);
            return super.lights(x) + 3;
        }
    }

    static class Even extends Way {
        @Override public int shows(int x) {
            ran(30);
            return -super.shows(x);
        }
    }

    static class Shy extends Even {
        @Override public int rests(int x) {
            ran(40);
            return super.rests(x) * 3;
        }

        @Override public int shows(int x) {
            ran(41);
            return super.shows(x + 1);
        }
    }

    static class Rule extends Mirror {
        @Override public int tells(int x) {
            ran(50);
            return super.tells(x) ^ 5;
        }
    }

    static class Best extends Rule {
        @Override public int rests(int x) {
            ran(60);
            return super.rests(x) - lights(2);
        }

        @Override public int tells(int x) {
            ran(61);
            return super.tells(x) + 1;
        }
    }

    static class Told extends Way {
        @Override public int lights(int x) {
            ran(70);
            return super.lights(x) * 2;
        }
    }

    static class Lost extends Told {
        @Override public int shows(int x) {
            ran(80);
            return super.shows(x) + rests(2);
        }

        @Override public int lights(int x) {
            ran(81);
            return super.lights(x) - 1;
        }
    }
}
