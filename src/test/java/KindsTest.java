/** The kinds told anew, each by the one above it as the document does, against the class. */
public final class KindsTest {
    public static void main(String[] args) {
        Driver[] kinds = {new Driver(), new Bus(), new Lorry(), new Local(), new Ambulance(), new Racer()};
        slowsEverywhere(kinds);
        for (int i = 0; i < 150; i++) {
            goThrough(kinds, new RandomTown(1000 + i).make());
        }
        Due.end();
    }

    static class Driver {
        int slows(int w, int h, int thing, int age) {
            switch (thing) {
                case 1:
                    return Math.max(w - 8 * h, 5);
                case 2:
                    return w / 2;
                case 3:
                    return w - 5;
                default:
                    return age < 21 ? 3 * w / 4 : w;
            }
        }

        int hurries() {
            return 12;
        }

        int shakes(int v, int h) {
            return v * h / 10;
        }

        int quick(BumpStreets x, int w, int street, int stretch) {
            int thing = x.stretch(street, stretch, 0);
            int free = stretch == 0 ? w : Math.min(w, quick(x, w, street, stretch - 1) + hurries());
            return thing == 0 ? free : Math.min(free, slows(w, x.now(1), thing, x.stretch(street, stretch, 1)));
        }
    }

    static class Bus extends Driver {
        @Override
        int slows(int w, int h, int thing, int age) {
            return thing == 1 ? Math.max(w - 4 * h, 5) : super.slows(w, h, thing, age);
        }

        @Override
        int hurries() {
            return 6;
        }

        @Override
        int shakes(int v, int h) {
            return super.shakes(v, h) + h;
        }
    }

    static class Lorry extends Driver {
        @Override
        int slows(int w, int h, int thing, int age) {
            return thing == 1 && h >= 4 ? 8 : super.slows(w, h, thing, age);
        }

        @Override
        int hurries() {
            return super.hurries() / 2;
        }

        @Override
        int shakes(int v, int h) {
            return 2 * super.shakes(v, h);
        }
    }

    static class Local extends Driver {
        @Override
        int slows(int w, int h, int thing, int age) {
            return thing == 4 || thing == 3 ? w : super.slows(w, h, thing, age);
        }
    }

    static class Ambulance extends Bus {
        @Override
        int slows(int w, int h, int thing, int age) {
            return thing == 2 ? w : super.slows(w, h, thing, age);
        }

        @Override
        int hurries() {
            return 2 * super.hurries();
        }
    }

    static class Racer extends Local {
        @Override
        int slows(int w, int h, int thing, int age) {
            return Math.min(w, super.slows(w, h, thing, age) + 5);
        }

        @Override
        int hurries() {
            return super.hurries() + 10;
        }

        @Override
        int shakes(int v, int h) {
            return super.shakes(v, h) + 1;
        }
    }

    private static void slowsEverywhere(Driver[] kinds) {
        int[] ages = {0, 1, 19, 20, 21, 22, 998, 999};
        BumpStreets x = new BumpStreets();
        x.driver(0);
        for (int kind = 0; kind < 6; kind++) {
            x.turn(0, kind);
            for (int w = 10; w <= 80; w++) {
                x.set(0, 1, w);
                for (int h = 1; h <= 6; h++) {
                    x.high(h);
                    for (int thing = 1; thing <= 4; thing++) {
                        for (int age : ages) {
                            Due.is("slows of " + kind + " at " + thing, x.slows(0, thing, age),
                                kinds[kind].slows(w, h, thing, age));
                        }
                    }
                }
            }
        }
    }

    private static void goThrough(Driver[] kinds, BumpStreets x) {
        int takesAll = 0;
        int shakenAll = 0;
        for (int d = 0; d < x.count(0); d++) {
            Driver kind = kinds[x.of(d, 0)];
            int w = x.of(d, 1);
            for (int street = 0; street < 3; street++) {
                int takes = 0;
                int shaken = 0;
                for (int i = 0; i < 20; i++) {
                    int v = kind.quick(x, w, street, i);
                    Due.is("quick", x.quick(d, street, i), v);
                    takes += 1227 / v;
                    shaken += x.stretch(street, i, 0) == 1 ? kind.shakes(v, x.now(1)) : 0;
                }
                Due.is("takes", x.takes(d, street), takes);
                Due.is("shaken", x.shaken(d, street), shaken);
                if (x.of(d, 2) == street) {
                    takesAll += takes;
                    shakenAll += shaken;
                }
            }
            Due.is("hurries", x.of(d, 3), kind.hurries());
        }
        Due.is("takes all", x.now(3), takesAll);
        Due.is("shaken all", x.now(2), shakenAll);
    }
}
