import java.util.ArrayList;
import java.util.List;
import java.util.regex.Matcher;
import java.util.regex.Pattern;

/** Texts by tokens and a grammar of one letter a token: what may stand next is looked up in the rest of a rule. */
final class TextModel {
    private static final Pattern TOKEN = Pattern.compile("[a-z]|[0-9]+|[,;]|.", Pattern.DOTALL);
    /** C cause, V serves, P patience, B belief, N need, S sort. */
    private static final String HEAD = "qC,V;", WAITER = "SP,B;", PASSER = "pSP,B,N;";

    int fault;
    int place;

    private final List<String> tokens = new ArrayList<>();
    private final List<Integer> places = new ArrayList<>();
    private final List<QueueModel.Person> people = new ArrayList<>();
    private int waiters;
    private int cause;
    private int serves;

    TextModel(String text) {
        Matcher matcher = TOKEN.matcher(text);
        while (matcher.find()) {
            tokens.add(matcher.group());
            places.add(matcher.start());
        }
        tokens.add("");
        places.add(text.length());
    }

    private QueueModel.World fail(int token, int number) {
        fault = number;
        place = places.get(token);
        return null;
    }

    QueueModel.World read() {
        String rule = HEAD;
        boolean passersBegan = false;
        int i = 0;
        while (true) {
            int[] numbers = {0, 0, -1};
            char sort = 0;
            for (char want : rule.toCharArray()) {
                String token = tokens.get(i);
                int number = faultOf(want, token);
                if (number != 0) {
                    return fail(i, number);
                }
                if (want == 'S') {
                    sort = token.charAt(0);
                }
                if ("CVPBN".indexOf(want) >= 0) {
                    numbers["CPVBN".indexOf(want) / 2] = Integer.parseInt(token);
                }
                i++;
            }
            take(rule, sort, numbers);
            String next = tokens.get(i);
            if (next.isEmpty()) {
                return world();
            }
            boolean waiter = "bwsfd".contains(next) && !passersBegan;
            boolean passer = next.equals("p");
            if (!waiter && !passer) {
                return fail(i, 1);
            }
            if (waiter ? waiters == 8 : people.size() - waiters == 8) {
                return fail(i, 3);
            }
            passersBegan = passer;
            rule = passer ? PASSER : WAITER;
        }
    }

    private static int faultOf(char want, String token) {
        if (want == 'S') {
            return token.length() == 1 && "bwsfd".contains(token) ? 0 : 1;
        }
        if ("CVPBN".indexOf(want) < 0) {
            return token.equals(String.valueOf(want)) ? 0 : 1;
        }
        if (!token.matches("[0-9]{1,2}")) {
            return 1;
        }
        int most = want == 'C' || want == 'B' ? 3 : want == 'V' ? 9 : want == 'P' ? 99 : 16;
        return Integer.parseInt(token) > most ? 2 : 0;
    }

    /** Numbers are cause and serves of a head; patience, belief and need of the others (need -1: a waiter). */
    private void take(String rule, char sort, int[] numbers) {
        if (rule.equals(HEAD)) {
            cause = numbers[0];
            serves = numbers[1];
            return;
        }
        boolean waiter = rule.equals(WAITER);
        int number = people.size();
        int where = waiter ? 1 : 0;
        people.add(new QueueModel.Person(number, sort, numbers[0], numbers[2], numbers[1], number, 0, where));
        waiters += where;
    }

    private QueueModel.World world() {
        List<Integer> queue = new ArrayList<>();
        for (int k = 0; k < waiters; k++) {
            queue.add(k);
        }
        return new QueueModel.World(people, queue, 0, cause, serves);
    }
}
