/** The boundaries that promises 27 to 29, and the text of a town, name. */
public final class TextEdgesTest {
    private static final String[] KINDS = {"driver", "bus", "lorry", "local", "ambulance", "racer"};
    private static final String[] THINGS = {"clear", "bump", "narrow", "sign", "paint"};

    public static void main(String[] args) {
        promise27beyond();
        promise27full();
        promise27beyondBeforeFull();
        promise27theLowestBytes();
        promise27bytesOf255();
        promise28howManyItHad();
        promise29noText();
        promise29tapeIsEmptyThen();
        promise29faultChangesNothing();
        promise29asLongAsCanBe();
        promise29eachByte();
        promise29wishOfItem();
        promise29streetOfItem();
        promise29placeOfThing();
        promise29highOfItem();
        promise29greatNumbers();
        promise29anotherWord();
        promise29aNinth();
        promise29firstFault();
        promise29endsTooEarly();
        promise29blanks();
        promise29paintOfAge0();
        promise29atMost120();
        Due.end();
    }

    private static BumpStreets bytes(int n) {
        BumpStreets x = new BumpStreets();
        StringBuilder text = new StringBuilder();
        for (int i = 0; i < n; i++) {
            text.append(' ');
        }
        // A text at its end, so that each byte shows.
        text.replace(Math.max(0, n - 6), n, "high 5".substring(0, Math.min(6, n)));
        Scenes.feed(x, text.toString());
        return x;
    }

    private static void promise27beyond() {
        Edge.range("27: n", Scenes::busy, 1, 4, (x, v) -> x.feed(0x20202020, v));
        Edge.range("27: n", Scenes::empty, 1, 4, (x, v) -> x.feed(-1, v));
    }

    private static void promise27full() {
        for (int had = 115; had <= 120; had++) {
            for (int n = 1; n <= 4; n++) {
                int before = had;
                int more = n;
                if (had + n <= 120) {
                    Edge.taken("27: " + n + " behind " + had, () -> bytes(before), had + n, x -> x.feed(0x20202020, more));
                } else {
                    Edge.refused("27: " + n + " behind " + had, () -> bytes(before), Due.FULL, x -> x.feed(0x20202020, more));
                }
            }
        }
    }

    private static void promise27beyondBeforeFull() {
        for (int n : new int[] {Integer.MIN_VALUE, -1, 0, 5, Integer.MAX_VALUE}) {
            Edge.refused("27: n " + n + " when it is full", () -> bytes(120), Due.BEYOND, x -> x.feed(0, n));
        }
    }

    /** The n lowest bytes of a number, the highest of these first. */
    private static void promise27theLowestBytes() {
        int[] numbers = {0x78787863, 0x78786361, 0x78636172, 0x62757320};
        String[] texts = {"c", "ca", "car", "bus "};
        for (int n = 1; n <= 4; n++) {
            BumpStreets x = new BumpStreets();
            Due.is("27: how many it has", x.feed(numbers[n - 1], n), n);
            Scenes.feed(x, ";");
            Due.is("27: how many it has", x.count(1), n + 1);
            // Another word's place is its first byte: the byte behind it tells how long it is.
            Due.is("27: " + texts[n - 1], x.town(), n == 4 ? -1 - 5 : -1);
        }
        BumpStreets x = new BumpStreets();
        x.feed(0x00000068, 1);
        x.feed(0x7a7a6967, 2);
        x.feed(0x7a682036, 3);
        Due.is("27: high 6", x.count(1), 6);
        Due.is("27: high 6", x.town(), 1);
        Due.is("27: high 6", x.now(1), 6);
    }

    /** A negative number's bytes are bytes as well. */
    private static void promise27bytesOf255() {
        BumpStreets x = new BumpStreets();
        Scenes.feed(x, "high 2");
        Due.is("27: four of 255", x.feed(-1, 4), 10);
        Due.is("27: which begin no token", x.town(), -1 - 6);
        Due.is("27: of a negative number", x.feed(0x80000000 | 0x627573, 3), 3);
        Due.is("27: its lowest bytes", x.town(), 1);
    }

    private static void promise28howManyItHad() {
        for (int n : new int[] {0, 1, 119, 120}) {
            Edge.taken("28: had " + n, () -> bytes(n), n, x -> x.wipe());
            Edge.taken("28: is empty", () -> bytes(n), 0, x -> {
                x.wipe();
                return x.wipe() + x.count(1);
            });
            Edge.taken("28: can be full again", () -> bytes(n), 4, x -> {
                x.wipe();
                return x.feed(0, 4);
            });
        }
        // Nothing of the old text is left in the new one.
        BumpStreets x = new BumpStreets();
        Scenes.feed(x, "bump 0 19;high 44");
        x.wipe();
        Due.is("28: wiped", Scenes.tell(x, "bump 0 1"), 1);
        Due.is("28: wiped", x.street(0, 0), 2);
    }

    private static void promise29noText() {
        Edge.taken("29: no bytes", Scenes::empty, -1, x -> x.town());
        Edge.taken("29: no bytes", Scenes::crowded, -1, x -> {
            x.wipe();
            return x.town();
        });
    }

    private static void promise29tapeIsEmptyThen() {
        Edge.taken("29: empty after a text", () -> bytes(120), 0, x -> {
            x.town();
            return x.count(1);
        });
        Edge.taken("29: empty after a fault", () -> bytes(5), 0, x -> {
            x.town();
            return x.count(1);
        });
        Edge.taken("29: no text a second time", () -> bytes(120), -1, x -> {
            x.town();
            return x.town();
        });
    }

    /** Nothing changes but that THE TAPE is empty; no finding. */
    private static void promise29faultChangesNothing() {
        String most = "racer wish 11 in 2;bump 0 0;clear 0 3;paint 1 4;high 1;narrow 2 19;";
        String[] bad = {"", "wish", "bus wish 9", "bump 0 20", "high 7", "high 2;", "?", "bus in 1 in 1"};
        for (String end : bad) {
            BumpStreets x = Scenes.busy();
            x.wipe();
            int before = x.status(-1);
            Due.is("29: a fault in '" + end + "'", Scenes.tell(x, most + end) < 0 ? 1 : 0, 1);
            Due.is("29: no finding in '" + end + "'", x.status(-1), before);
            BumpStreets same = Scenes.busy();
            same.wipe();
            Due.is("29: nothing changes by '" + end + "'", Whole.of(x).equals(Whole.of(same)) ? 1 : 0, 1);
        }
    }

    private static void told(String text, int items) {
        BumpStreets x = new BumpStreets();
        Due.is("29: '" + text + "'", Scenes.tell(x, text), items);
        Due.is("29: no finding in '" + text + "'", x.status(-1), 0);
    }

    private static void fault(String text, int place) {
        told(text, -1 - place);
    }

    /** TOKENS, each as long as can be. */
    private static void promise29asLongAsCanBe() {
        fault("busbus", 0);
        fault("buswish 40", 0);
        fault("bus wishin 40", 4);
        fault("bus in2in 1", 7);
        fault("high 2high 3", 6);
        fault("bump 01", 7);
        told("bump 0 1", 1);
        told("bump0 1", 1);
        told("bus wish10in2;high6", 2);
        // Two digits are one number: 21 is no street, 11 no height.
        fault("bump 21", 5);
        fault("high 11", 5);
        told("bump 02 019", 1);
    }

    /** WORDS are of letters a to z, NUMBERS of digits; ; is a SIGN; a blank stands between. All else begins no TOKEN. */
    private static void promise29eachByte() {
        for (int b = 0; b < 256; b++) {
            char c = (char) b;
            boolean letter = b >= 97 && b <= 122;
            boolean digit = b >= 48 && b <= 57;
            if (b == 32) {
                told("bus" + c, 1);
                told("high 2" + c, 1);
                told("high" + c + "2", 1);
                fault("" + c, 1);
            } else if (b == 59) {
                fault("bus" + c, 4);
                fault("high 2" + c, 7);
                fault("" + c, 0);
            } else {
                fault("bus" + c, letter ? 0 : 3);
                fault("bus " + c, 4);
                fault("bus;" + c, 4);
                fault("high 2" + c, digit ? 5 : 6);
                fault("" + c, 0);
            }
            if (b != 32) {
                told("high " + c, b >= 49 && b <= 54 ? 1 : -1 - 5);
            }
        }
    }

    /** Perhaps wish and a NUMBER (10 to 80). */
    private static void promise29wishOfItem() {
        for (int kind = 0; kind < 6; kind++) {
            String start = KINDS[kind] + " wish ";
            fault(start + 0, start.length());
            fault(start + 9, start.length());
            fault(start + 81, start.length());
            fault(start + 999, start.length());
            for (int wish : new int[] {10, 80}) {
                BumpStreets x = new BumpStreets();
                Due.is("29: " + start + wish, Scenes.tell(x, start + wish), 1);
                Due.is("29: its kind", x.of(0, 0), kind);
                Due.is("29: its wish", x.of(0, 1), wish);
                Due.is("29: its street at first", x.of(0, 2), 0);
            }
            BumpStreets x = Scenes.told(KINDS[kind]);
            Due.is("29: its kind alone", x.of(0, 0), kind);
            Due.is("29: its wish at first", x.of(0, 1), 40);
        }
    }

    /** Perhaps in and a NUMBER (a STREET). */
    private static void promise29streetOfItem() {
        for (int kind = 0; kind < 6; kind++) {
            String start = KINDS[kind] + " in ";
            fault(start + 3, start.length());
            fault(start + 999, start.length());
            for (int street = 0; street < 3; street++) {
                BumpStreets x = new BumpStreets();
                Due.is("29: " + start + street, Scenes.tell(x, start + street), 1);
                Due.is("29: its wish at first", x.of(0, 1), 40);
                Due.is("29: its street", x.of(0, 2), street);
                BumpStreets y = Scenes.told(KINDS[kind] + " wish 80 in " + street);
                Due.is("29: its wish and street", y.of(0, 1) * 10 + y.of(0, 2), 800 + street);
            }
        }
        fault("bus in 1 wish 40", 9);
        fault("bus wish 40 wish 40", 12);
        fault("bus in 1 in 1", 9);
        fault("bus wish in 1", 9);
        fault("bus 40", 4);
    }

    /** Two NUMBERS (a STREET, a STRETCH): that THING is there (or nothing). */
    private static void promise29placeOfThing() {
        for (int thing = 0; thing <= 4; thing++) {
            String name = THINGS[thing] + " ";
            fault(name + "3 0", name.length());
            fault(name + "999 0", name.length());
            fault(name + "0 20", name.length() + 2);
            fault(name + "2 20", name.length() + 2);
            fault(name + "2 999", name.length() + 2);
            fault(name + "19 2", name.length());
            fault(name + "2 19 0", name.length() + 5);
            for (int street = 0; street < 3; street++) {
                for (int stretch : new int[] {0, 19}) {
                    BumpStreets x = new BumpStreets();
                    x.thing(street, stretch, 1 + thing % 4);
                    Due.is("29: " + name, Scenes.tell(x, name + street + " " + stretch), 1);
                    Due.is("29: what is there", x.stretch(street, stretch, 0), thing);
                    Due.is("29: and nothing else", x.street(0, 0) + x.street(1, 0) + x.street(2, 0),
                        thing == 0 ? 0 : 1 << stretch);
                }
            }
        }
    }

    /** High and a NUMBER (1 to 6). */
    private static void promise29highOfItem() {
        fault("high 0", 5);
        fault("high 7", 5);
        fault("high 999", 5);
        for (int high = 1; high <= 6; high++) {
            BumpStreets x = new BumpStreets();
            Due.is("29: high", Scenes.tell(x, "high " + high), 1);
            Due.is("29: how high", x.now(1), high);
        }
    }

    /** NUMBERS: 999 at most, so none comes round to one that may be. */
    private static void promise29greatNumbers() {
        String[] threes = {"1003", "10003", "259", "65539", "4294967299", "18446744073709551619", "9223372036854775811"};
        for (String three : threes) {
            fault("high " + three, 5);
            fault("bump 0 " + three, 7);
        }
        fault("high " + "9".repeat(115), 5);
        fault("bus wish 1040", 9);
        fault("bus in 1000", 7);
        told("high 003", 1);
        told("high " + "0".repeat(114) + "6", 1);
        fault("high " + "0".repeat(114) + "7", 5);
        fault("bus wish 009", 9);
        told("bus wish 0080 in 00", 1);
    }

    private static void promise29anotherWord() {
        String[] names = {"driver", "bus", "lorry", "local", "ambulance", "racer", "bump", "narrow", "sign", "paint",
            "clear", "high"};
        for (String name : names) {
            String rest = name.equals("high") ? " 2" : name.length() < 4 || isKind(name) ? "" : " 0 1";
            told(name + rest, 1);
            fault(name.substring(0, name.length() - 1) + rest, 0);
            fault(name + "s" + rest, 0);
            fault(name.substring(0, name.length() - 1) + "z" + rest, 0);
            fault("x" + name.substring(1) + rest, 0);
            fault(name.toUpperCase() + rest, 0);
        }
        fault("wish 40", 0);
        fault("in 1", 0);
        fault("bus wis 40", 4);
        fault("bus wishe 40", 4);
        fault("bus i 1", 4);
        fault("bus inn 1", 4);
        fault("bus bus", 4);
        fault("bus high 2", 4);
        fault("high two", 5);
        fault("high wish", 5);
        fault("bump in 2", 5);
        fault("bump 0 in", 7);
        fault("bus in in", 7);
        fault("high 2 wish 40", 7);
        fault("bump 0 1 in 2", 9);
    }

    private static boolean isKind(String name) {
        for (String kind : KINDS) {
            if (kind.equals(name)) {
                return true;
            }
        }
        return false;
    }

    /** The name of a KIND for a 9th: its own place. */
    private static void promise29aNinth() {
        for (int had = 0; had <= 8; had++) {
            StringBuilder text = new StringBuilder("high 2");
            for (int d = had; d < 8; d++) {
                text.append(";bus");
            }
            Due.is("29: eight with " + had, Scenes.tell(with(had), text.toString()), 9 - had);
            int place = text.length() + 2;
            text.append("; racer");
            BumpStreets x = with(had);
            Due.is("29: a 9th with " + had, Scenes.tell(x, text.toString()), -1 - place);
            Due.is("29: none came", x.count(0), had);
            Due.is("29: nor anything", x.now(1), 3);
            Due.is("29: no finding", x.status(-1), 0);
            Due.is("29: a 9th before its wish", Scenes.tell(with(had), text + " wish 9"), -1 - place);
            Due.is("29: a 9th before the end", Scenes.tell(with(had), text + " wish"), -1 - place);
        }
        BumpStreets x = with(8);
        Due.is("29: another word is no 9th", Scenes.tell(x, "high 2;car"), -1 - 7);
        Due.is("29: things still come", Scenes.tell(x, "bump 0 1;high 2"), 2);
    }

    private static BumpStreets with(int drivers) {
        BumpStreets x = new BumpStreets();
        for (int d = 0; d < drivers; d++) {
            x.driver(0);
        }
        return x;
    }

    /** The first TOKEN that can't stand there, whatever comes behind it. */
    private static void promise29firstFault() {
        fault("high 7;high 8", 5);
        fault("high 2;high 8;car", 12);
        fault("car ?", 0);
        fault("? car", 0);
        fault("bump 3 20", 5);
        fault("bump 0 20 ?", 7);
        fault("bus wish 9 in 3", 9);
        fault("bus wish 10 in 3", 15);
        fault("high 2 ?;", 7);
        fault(";high 2", 0);
        fault("high 2;;high 2", 7);
        fault("high ; 2", 5);
        fault("bump ;0 1", 5);
        fault("bump 0;1", 6);
        fault("bus wish;10", 8);
        fault("bus in;1", 6);
        fault("2 high", 0);
    }

    /** Or how many bytes there are if it ends too early. */
    private static void promise29endsTooEarly() {
        String[] early = {"", "bus;", "bus wish", "bus in", "bus wish 40 in", "bus wish 40;", "bump", "bump 0", "narrow",
            "narrow 2", "sign", "sign 1", "paint", "paint 0", "clear", "clear 0", "high", "high 2;", "bump 0 1;", "bus;bus;"};
        for (String text : early) {
            fault(text, text.length());
            fault(text + "  ", text.length() + 2);
            fault("  " + text, text.length() + 2);
        }
    }

    /** Blanks may stand between; taken: before the first and behind the last TOKEN, too. */
    private static void promise29blanks() {
        told("bump   0   1   ;   high   2", 2);
        told(" bus wish 40 in 1", 1);
        told("bus wish 40 in 1 ", 1);
        fault("bu s", 0);
        fault("high 2 3", 7);
        fault("bump 1 9 ; bump 1 2 0", 20);
        fault("high\t2", 4);
        fault("high 2\n", 6);
        fault("high 2\r\n", 6);
    }

    private static void promise29paintOfAge0() {
        BumpStreets x = Scenes.told("paint 2 19");
        x.days(30);
        Due.is("29: old paint", x.stretch(2, 19, 1), 30);
        Due.is("29: another item leaves it", Scenes.tell(x, "paint 2 18"), 1);
        Due.is("29: old paint", x.stretch(2, 19, 1), 30);
        Due.is("29: laid anew", Scenes.tell(x, "paint 2 19"), 1);
        Due.is("29: of age 0", x.stretch(2, 19, 1), 0);
        x.days(1);
        Scenes.tell(x, "sign 2 19");
        Due.is("29: no age of a sign", x.stretch(2, 19, 1), 0);
        x.days(1);
        Scenes.tell(x, "paint 2 19");
        Scenes.tell(x, "clear 2 19");
        Due.is("29: no age of nothing", x.stretch(2, 19, 1), 0);
    }

    private static void promise29atMost120() {
        String item = "high 2";
        String many = (item + ";").repeat(16);
        told(many + "high  3", 17);
        Due.is("29: 119 bytes", (many + "high  3").length(), 119);
        told(many + "high   3", 17);
        fault(many + "high   7", 119);
        fault(many + "high 2; ", 120);
        fault(many + "high 2 ?", 119);
        // As many items as can be: eight of four bytes with their sign, the others of six.
        String most = "bus;".repeat(8) + "high1;".repeat(13) + "high 6";
        told(most, 22);
        BumpStreets x = Scenes.told(most);
        Due.is("29: the last one stays", x.now(1), 6);
        told(" ".repeat(117) + "bus", 1);
        told("bus" + " ".repeat(117), 1);
        fault(" ".repeat(120), 120);
        fault("bus;" + " ".repeat(116), 120);
        fault("x" + "bus".repeat(39), 0);
    }
}
