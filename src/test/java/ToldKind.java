/** The kinds as the document tells them, each by the one above it. */
abstract class ToldKind {
    static final ToldKind[] ALL = {
        new Driver(), new Bus(), new Lorry(), new Local(), new Ambulance(), new Racer(),
    };

    /** At a thing (1 to 4, paint of an age), with a wish w and bumps h high. */
    abstract int slowsTo(int w, int h, int thing, int age);

    abstract int hurries();

    abstract int shakes(int v, int h);

    private static class Driver extends ToldKind {
        @Override
        int slowsTo(int w, int h, int thing, int age) {
            return switch (thing) {
                case 1 -> Math.max(5, w - 8 * h);
                case 2 -> w / 2;
                case 3 -> w - 5;
                default -> age < 21 ? 3 * w / 4 : w;
            };
        }

        @Override
        int hurries() {
            return 12;
        }

        @Override
        int shakes(int v, int h) {
            return v * h / 10;
        }
    }

    private static class Bus extends Driver {
        @Override
        int slowsTo(int w, int h, int thing, int age) {
            return thing == 1 ? Math.max(5, w - 4 * h) : super.slowsTo(w, h, thing, age);
        }

        @Override
        int hurries() {
            return 6;
        }

        @Override
        int shakes(int v, int h) {
            return super.shakes(v, h) + h;
        }
    }

    private static final class Lorry extends Driver {
        @Override
        int slowsTo(int w, int h, int thing, int age) {
            return thing == 1 && h >= 4 ? 8 : super.slowsTo(w, h, thing, age);
        }

        @Override
        int hurries() {
            return super.hurries() / 2;
        }

        @Override
        int shakes(int v, int h) {
            return 2 * super.shakes(v, h);
        }
    }

    private static class Local extends Driver {
        @Override
        int slowsTo(int w, int h, int thing, int age) {
            return thing == 4 || thing == 3 ? w : super.slowsTo(w, h, thing, age);
        }
    }

    private static final class Ambulance extends Bus {
        @Override
        int slowsTo(int w, int h, int thing, int age) {
            return thing == 2 ? w : super.slowsTo(w, h, thing, age);
        }

        @Override
        int hurries() {
            return 2 * super.hurries();
        }
    }

    private static final class Racer extends Local {
        @Override
        int slowsTo(int w, int h, int thing, int age) {
            return Math.min(w, super.slowsTo(w, h, thing, age) + 5);
        }

        @Override
        int hurries() {
            return super.hurries() + 10;
        }

        @Override
        int shakes(int v, int h) {
            return super.shakes(v, h) + 1;
        }
    }
}
