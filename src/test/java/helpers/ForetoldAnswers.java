/** Due answers of what is foretold, several of a town at once: a test that extends this calls them by their names. */
abstract class ForetoldAnswers {
    static void ahead(ElbowQueue q, int n, int... want) {
        for (int what = 0; what < want.length; what++) {
            Check.due("ahead(" + n + ", " + what + ")", q.ahead(n, what), want[what]);
        }
    }

    static void lives(String town, int want) {
        Check.due("lives of " + town, Check.town(town).lives(), want);
    }

    static void words(ElbowQueue q, int k, int longest, int shortest) {
        words(q, "foretold", k, longest, shortest);
    }

    static void words(ElbowQueue q, String where, int k, int longest, int shortest) {
        Check.due(where + ", words(" + k + ", 0)", q.words(k, 0), longest);
        Check.due(where + ", words(" + k + ", 1)", q.words(k, 1), shortest);
    }

    static void served(ElbowQueue q, int person, int served, int left) {
        Check.due("served(" + person + ", 0)", q.served(person, 0), served);
        Check.due("served(" + person + ", 1)", q.served(person, 1), left);
    }

    static void spread(ElbowQueue q, int... want) {
        for (int belief = 0; belief < want.length; belief++) {
            Check.due("spread(" + belief + ")", q.spread(belief), want[belief]);
        }
    }

    static void elbows(ElbowQueue q, int... want) {
        elbows(q, "foretold", want);
    }

    static void elbows(ElbowQueue q, String where, int... want) {
        for (int k = 0; k < want.length; k++) {
            Check.due(where + ", elbows(" + k + ")", q.elbows(k), want[k]);
        }
    }

    static void odds(ElbowQueue q, int k, int n, int c, int above, int below) {
        String call = "grows(" + k + ", " + n + ", " + c + ", ";
        Check.due(call + "0)", q.grows(k, n, c, 0), above);
        Check.due(call + "1)", q.grows(k, n, c, 1), below);
    }

    static void opens(ElbowQueue q, int s, int minute, int many) {
        Check.due("opens(" + s + ", 0)", q.opens(s, 0), minute);
        Check.due("opens(" + s + ", 1)", q.opens(s, 1), many);
    }
}
