import java.math.BigInteger;
import java.util.ArrayList;
import java.util.List;
import java.util.regex.Matcher;
import java.util.regex.Pattern;

/** The text of a town as the document tells it: tokens first, then items. */
final class ToldText {
    static final class Fault extends Exception {
        private static final long serialVersionUID = 1L;
        final int place;

        Fault(int place) {
            this.place = place;
        }
    }

    private static final Pattern TOKEN = Pattern.compile("[a-z]+|[0-9]+|;|[^ ]");
    private static final List<String> KINDS = List.of("driver", "bus", "lorry", "local", "ambulance", "racer");
    private static final List<String> THINGS = List.of("clear", "bump", "narrow", "sign", "paint");

    private final List<String> tokens = new ArrayList<>();
    private final List<Integer> places = new ArrayList<>();
    private int at = 0;

    ToldText(String text) {
        Matcher m = TOKEN.matcher(text);
        while (m.find()) {
            tokens.add(m.group());
            places.add(m.start());
        }
        // The end stands as a token that nothing takes, at as many bytes as there are.
        tokens.add("");
        places.add(text.length());
    }

    int comesTo(ToldTown town) throws Fault {
        int items = 0;
        do {
            item(town);
            items++;
        } while (takes(";"));
        if (!tokens.get(at).isEmpty()) {
            throw fault();
        }
        return items;
    }

    private void item(ToldTown town) throws Fault {
        String word = tokens.get(at);
        if (KINDS.contains(word) && town.drivers.size() < 8) {
            at++;
            int wish = takes("wish") ? number(10, 80) : 40;
            int street = takes("in") ? number(0, 2) : 0;
            town.drivers.add(new ToldTown.Driver(KINDS.indexOf(word), wish, street));
        } else if (THINGS.contains(word)) {
            at++;
            int street = number(0, 2);
            int stretch = number(0, 19);
            town.lay(street, stretch, THINGS.indexOf(word));
        } else if (takes("high")) {
            town.high = number(1, 6);
        } else {
            throw fault();
        }
    }

    private boolean takes(String token) {
        boolean is = tokens.get(at).equals(token);
        at += is ? 1 : 0;
        return is;
    }

    private int number(int least, int most) throws Fault {
        String token = tokens.get(at);
        if (!token.matches("[0-9]+") || token.matches("0*[1-9][0-9]{3,}")) {
            throw fault();
        }
        int number = new BigInteger(token).intValue();
        if (number < least || number > most) {
            throw fault();
        }
        at++;
        return number;
    }

    private Fault fault() {
        return new Fault(places.get(at));
    }
}
