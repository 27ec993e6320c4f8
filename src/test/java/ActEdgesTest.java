/** Boundary cases of promises 9 to 15 and of MINUTES and ACTS, a test for each sentence. */
public final class ActEdgesTest {
    private static final String CROWD = "f99,0;f99,0;f99,0;f99,0;f99,0;f99,0;f99,0;f99,0;";
    private static final String NEEDLESS = "pf99,0,0;pf99,0,0;pf99,0,0;pf99,0,0;pf99,0,0;pf99,0,0;pf99,0,0;pf99,0,0;";

    public static void main(String[] args) {
        firstOnesBelieveCause();
        firstOnesAlone();
        originAtFirst();
        nothingIsToldOn();
        whoTakesOn();
        toldByWhatWasAhead();
        nobodyAheadOfTheFirst();
        serves();
        servesNever();
        nobodyAtTheDoor();
        bearsPatience();
        bearsTwice();
        bearsHalf();
        bearsWhatHeHasStood();
        leavesAllAtOnce();
        followersInACrowd();
        crowdIsCounted();
        need();
        needNeverMet();
        needIsCountedThen();
        onePasserAMinute();
        howManyMinutes();
        anActEach();
        beyondTheLastMinute();
        stateBadFull();
        whatIsSaid();
        saidByHimself();
        whoCanBeTold();
        whoCanGo();
        placesMoveUp();
        hatches();
        hatchOfTheSame();
        actsAtMost();
        oldestIsForgotten();
        ringOfAllActs();
        noneToUndo();
        undoneLatestFirst();
        undoneOfAFullHouse();
        saidInVainIsAnAct();
        refusedIsNoAct();
        whatOfAPerson();
        personsOfATown();
        whereOneIs();
        places();
        Check.end();
    }

    private static void firstOnesBelieveCause() {
        Check.sentence("A first one BELIEVES what CAUSE is, whatever was told, or said");
        for (int cause = 0; cause <= 3; cause++) {
            for (int told = 0; told <= 3; told++) {
                ElbowQueue q = Check.town("q" + cause + ",0;f9," + told + ";pf9," + told + ",9;");
                Check.belief(q, "told " + told, 0, cause, 0);
                Check.belief(q, "told " + told + ", a passer", 1, cause, 1);
                Check.due("what he believed", q.say(0, 3 - told), cause);
                Check.belief(q, "said " + told, 0, cause, 0);
                q.minutes(1);
                q.hatch(3 - cause, 0);
                Check.belief(q, "a hatch", 0, 3 - cause, 0);
                Check.belief(q, "a hatch, a passer gone by", 1, 3 - cause, 1);
                q.undo();
                Check.belief(q, "no hatch", 0, cause, 0);
                q.go(0);
                Check.belief(q, "gone", 0, cause, 0);
            }
        }
    }

    private static void firstOnesAlone() {
        Check.sentence("A first one (f alone)");
        for (String sort : new String[] {"b", "w", "s", "d"}) {
            ElbowQueue q = Check.town("q2,0;" + sort + "9,1;p" + sort + "9,3,9;");
            Check.belief(q, sort, 0, 1, 0);
            Check.belief(q, sort + ", a passer", 1, 3, 1);
            Check.due("said to " + sort, q.say(0, 0), 1);
            Check.belief(q, sort, 0, 0, 0);
        }
    }

    private static void originAtFirst() {
        Check.sentence("The ORIGIN of what one BELIEVES: himself, at first");
        ElbowQueue q = Check.town("q1,0;b9,1;b9,1;w9,0;s9,2;f9,0;d9,3;d9,0;w9,2;pb9,0,0;pw9,1,0;pf9,0,0;");
        for (int person = 0; person < 11; person++) {
            Check.due("origin", q.person(person, 5), person);
        }
        q.minutes(1);
        Check.due("of a passer who joined", q.person(8, 5), 8);
    }

    private static void nothingIsToldOn() {
        Check.sentence("one that BELIEVES something (not 0)");
        ElbowQueue q = Check.town("q0,0;b9,0;w9,3;f9,0;w9,2;d9,0;w9,1;");
        q.minutes(1);
        Check.belief(q, "behind a believer of nothing", 1, 3, 1);
        Check.belief(q, "behind a first one of nothing", 3, 2, 3);
        Check.belief(q, "behind a doubter of nothing", 5, 1, 5);
        for (int word = 1; word <= 3; word++) {
            ElbowQueue told = Check.town("q0,0;d9," + word + ";b9,0;");
            told.minutes(1);
            Check.belief(told, "told " + word, 1, word, 0);
        }
    }

    /** One of each sort, of each belief, behind one who believes 2. */
    private static void whoTakesOn() {
        Check.sentence("believers, sunk ones, if they BELIEVE nothing; followers always; others never");
        for (int belief = 0; belief <= 3; belief++) {
            for (String sort : new String[] {"b", "s", "w", "d", "f"}) {
                ElbowQueue q = Check.town("q1,0;d99,2;" + sort + "99," + belief + ";");
                q.minutes(1);
                boolean hears = sort.equals("w") || belief == 0 && "bs".contains(sort);
                int own = sort.equals("f") ? 1 : belief;
                Check.belief(q, sort + " of " + belief, 1, hears ? 2 : own, hears ? 0 : 1);
            }
        }
    }

    private static void toldByWhatWasAhead() {
        Check.sentence("by what was BELIEVED ahead of it");
        ElbowQueue q = Check.town("q0,0;d99,1;b99,0;b99,0;s99,0;w99,0;b99,0;");
        for (int minute = 1; minute <= 5; minute++) {
            q.minutes(1);
            for (int person = 1; person <= 5; person++) {
                boolean told = person <= minute;
                Check.belief(q, "minute " + minute, person, told ? 1 : 0, told ? 0 : person);
            }
        }
        ElbowQueue w = Check.town("q0,0;d99,1;w99,2;w99,3;w99,2;");
        w.minutes(1);
        Check.belief(w, "minute 1", 1, 1, 0);
        Check.belief(w, "minute 1", 2, 2, 1);
        Check.belief(w, "minute 1", 3, 3, 2);
        w.minutes(1);
        Check.belief(w, "minute 2", 2, 1, 0);
        Check.belief(w, "minute 2", 3, 2, 1);
    }

    private static void nobodyAheadOfTheFirst() {
        Check.sentence("each in the QUEUE who stands behind one");
        ElbowQueue q = Check.town("q0,0;w99,0;d99,3;pb99,0,0;");
        q.minutes(1);
        Check.belief(q, "at place 0", 0, 0, 0);
        Check.belief(q, "a passer who joined this minute", 2, 0, 2);
        q.minutes(1);
        Check.belief(q, "a passer who stood a minute", 2, 3, 1);
        ElbowQueue door = Check.town("q0,1;d99,3;b99,0;");
        door.minutes(1);
        Check.belief(door, "behind one who is served in the same minute", 1, 3, 0);
        ElbowQueue leaving = Check.town("q0,0;d0,3;b0,0;");
        leaving.minutes(1);
        Check.belief(leaving, "behind one who leaves in the same minute", 1, 3, 0);
    }

    private static void serves() {
        Check.sentence("if SERVES is not 0, and divides it, who is at PLACE 0 is SERVED");
        for (int serves = 1; serves <= 9; serves++) {
            ElbowQueue q = Check.town("q0," + serves + ";f99,0;f99,0;f99,0;");
            for (int minute = 1; minute <= 3 * serves; minute++) {
                Check.due("serves " + serves + ", minute " + minute, q.minutes(1), 3 - minute / serves);
                for (int person = 0; person < 3; person++) {
                    int where = minute >= (person + 1) * serves ? 2 : 1;
                    Check.due("where " + person + " is", q.person(person, 1), where);
                }
            }
            Check.due("the last has stood", q.person(2, 2), 3 * serves - 1);
        }
    }

    private static void servesNever() {
        Check.sentence("if SERVES is not 0");
        ElbowQueue q = Check.town("q0,0;f99,0;f99,0;");
        for (int n = 0; n < 4; n++) {
            Check.due("20 minutes more", q.minutes(20), 2);
        }
        q.hatch(0, 9);
        Check.due("minute 81", q.minutes(1), 1);
    }

    private static void nobodyAtTheDoor() {
        Check.sentence("who is at PLACE 0 is SERVED: nobody may be there");
        ElbowQueue q = Check.town("q0,1;pf9,0,0;pf9,0,1;pf9,0,0;");
        Check.due("minute 1", q.minutes(1), 1);
        Check.due("minute 2", q.minutes(1), 0);
        Check.due("served", q.person(0, 1), 2);
        Check.due("minute 3", q.minutes(1), 1);
        Check.due("minute 4", q.minutes(1), 0);
        Check.due("minute 5", q.minutes(1), 0);
        Check.due("served in all", q.ahead(0, 1), 2);
    }

    /** He stands till he has stood as long as he bears, and leaves a minute later. */
    private static void bears(String sort, int patience, int belief, int minutes) {
        String town = "q0,0;" + sort + patience + "," + belief + ";";
        ElbowQueue q = Check.town(town);
        for (int left = minutes; left > 0; left -= 20) {
            Check.due(town + " stands", q.minutes(Math.min(left, 20)), 1);
        }
        Check.person(q, town, 0, 0, 1, minutes);
        Check.due(town + " leaves", q.minutes(1), 0);
        Check.person(q, town, 0, Check.NONE, 3, minutes + 1);
    }

    private static void bearsPatience() {
        Check.sentence("who has STOOD more than he BEARS LEAVES: he BEARS PATIENCE");
        for (int patience = 0; patience <= 99; patience++) {
            bears("f", patience, 0, patience);
            bears("f", patience, 3, patience);
            bears("b", patience, 0, patience);
            bears("w", patience, 0, patience);
        }
        ElbowQueue q = Check.town("q1,0;f5,0;");
        Check.due("a first one of something", q.minutes(5), 1);
        Check.due("a first one of something", q.minutes(1), 0);
    }

    private static void bearsTwice() {
        Check.sentence("believers, followers, sunk ones that BELIEVE something twice that");
        for (int patience = 0; patience <= 99; patience++) {
            bears("b", patience, 1, 2 * patience);
            bears("b", patience, 3, 2 * patience);
            bears("w", patience, 2, 2 * patience);
        }
        ElbowQueue q = Check.town("q0,0;b4,0;");
        q.minutes(4);
        q.say(0, 1);
        Check.due("said in time", q.minutes(4), 1);
        Check.due("he leaves then", q.minutes(1), 0);
        ElbowQueue told = Check.town("q0,0;d99,1;b0,0;b1,0;b0,0;");
        Check.due("told in the same minute, twice 0 is 0", told.minutes(1), 2);
        Check.belief(told, "behind one who was told", 2, 0, 2);
        ElbowQueue late = Check.town("q0,0;d99,1;b1,0;");
        Check.due("told ahead of leaving", late.minutes(2), 2);
        Check.due("he leaves then", late.minutes(1), 1);
    }

    private static void bearsHalf() {
        Check.sentence("a doubter half of PATIENCE (cut towards 0)");
        for (int patience = 0; patience <= 99; patience++) {
            bears("d", patience, 0, patience / 2);
            bears("d", patience, 2, patience / 2);
        }
    }

    /** 2 P is no more than P and half of it; one minute more is. */
    private static void bearsWhatHeHasStood() {
        Check.sentence("a sunk one half of what he has STOOD more (cut towards 0)");
        for (int patience = 0; patience <= 99; patience++) {
            bears("s", patience, 0, 2 * patience);
            bears("s", patience, 1, 4 * patience);
        }
    }

    private static void leavesAllAtOnce() {
        Check.sentence("LEAVES, all at once");
        ElbowQueue q = Check.town("q0,0;d0,0;f1,0;d0,0;d1,0;f1,0;d0,0;");
        Check.due("four leave", q.minutes(1), 2);
        Check.inQueue(q, "four leave", 1, 4);
        Check.due("the others", q.minutes(1), 0);
        ElbowQueue door = Check.town("q0,1;d0,0;d0,0;d0,0;");
        Check.due("one is served, the others leave", door.minutes(1), 0);
        Check.person(door, "served, has not stood", 0, Check.NONE, 2, 0);
        Check.person(door, "left", 1, Check.NONE, 3, 1);
        Check.person(door, "left", 2, Check.NONE, 3, 1);
    }

    private static void followersInACrowd() {
        Check.sentence("a follower LEAVES never, if 6 or more are in the QUEUE");
        for (int others = 0; others <= 7; others++) {
            ElbowQueue q = Check.town("q0,0;w0,0;" + CROWD.substring(0, 6 * others));
            int in = others + 1;
            Check.due(in + " are in the queue", q.minutes(1), in >= 6 ? in : others);
            Check.due("where he is", q.person(0, 1), in >= 6 ? 1 : 3);
        }
        ElbowQueue long6 = Check.town("q0,0;w0,0;" + CROWD.substring(0, 30));
        Check.due("long", long6.minutes(20), 6);
        Check.due("has stood", long6.person(0, 2), 20);
        for (String sort : new String[] {"b", "s", "f", "d"}) {
            ElbowQueue q = Check.town("q0,0;" + sort + "0,0;" + CROWD.substring(0, 42));
            Check.due(sort + " leaves in a crowd", q.minutes(1), 7);
        }
    }

    private static void crowdIsCounted() {
        Check.sentence("6 or more are in the QUEUE (ahead of anybody's leaving)");
        ElbowQueue leaving = Check.town("q0,0;d0,0;w0,0;w0,0;d0,0;f99,0;f99,0;");
        Check.due("6, of whom 2 leave", leaving.minutes(1), 4);
        Check.inQueue(leaving, "the followers stay", 1, 2, 4, 5);
        Check.due("4 then", leaving.minutes(1), 2);
        Check.inQueue(leaving, "the followers leave", 4, 5);
        ElbowQueue served = Check.town("q0,1;f99,0;w0,0;f99,0;f99,0;f99,0;f99,0;");
        Check.due("6, of whom 1 is served ahead", served.minutes(1), 4);
        ElbowQueue seven = Check.town("q0,1;f99,0;w0,0;f99,0;f99,0;f99,0;f99,0;f99,0;");
        Check.due("7, of whom 1 is served ahead", seven.minutes(1), 6);
        ElbowQueue joining = Check.town("q0,0;w0,0;f99,0;f99,0;f99,0;f99,0;pf99,0,0;");
        Check.due("5, and 1 joins behind", joining.minutes(1), 5);
        Check.due("the follower has left", joining.person(0, 1), 3);
    }

    /** So many in the queue when the tested passer comes: waiters, then passers without a need. */
    private static ElbowQueue crowded(int many, int need) {
        int waiters = Math.min(many, 8);
        int passers = many - waiters;
        ElbowQueue q = Check.town("q0,0;" + CROWD.substring(0, 6 * waiters) + NEEDLESS.substring(0, 9 * passers)
            + "pf99,0," + need + ";");
        q.minutes(passers + 1);
        return q;
    }

    private static void need() {
        Check.sentence("JOINS at the end, if NEED or more are in the QUEUE then; else he goes BY");
        for (int many = 0; many <= 15; many++) {
            ElbowQueue fewer = crowded(many, Math.max(many - 1, 0));
            Check.due(many + " are more than he needs", fewer.place(many), many);
            ElbowQueue just = crowded(many, many);
            Check.due(many + " are enough", just.count(4), many + 1);
            Check.person(just, many + " are enough", many, many, 1, 0);
            ElbowQueue more = crowded(many, many + 1);
            Check.due(many + " are not enough", more.count(4), many);
            Check.person(more, many + " are not enough", many, Check.NONE, 4, 0);
        }
    }

    private static void needNeverMet() {
        Check.sentence("NEED 16: no QUEUE has so many when a passer comes");
        ElbowQueue q = crowded(15, 16);
        Check.due("15", q.count(4), 15);
        Check.due("by", q.person(15, 1), 4);
        Check.due("elbows do", Check.town("q0,0;" + CROWD + "pf9,0,16;").elbows(1), 8);
    }

    private static void needIsCountedThen() {
        Check.sentence("NEED or more are in the QUEUE then");
        ElbowQueue served = Check.town("q0,1;f99,0;f99,0;pf99,0,2;");
        Check.due("behind serving", served.minutes(1), 1);
        ElbowQueue leaving = Check.town("q0,0;d0,0;f99,0;pf99,0,2;");
        Check.due("behind leaving", leaving.minutes(1), 1);
        ElbowQueue just = Check.town("q0,1;f99,0;d0,0;f99,0;pf99,0,1;");
        Check.due("behind both", just.minutes(1), 2);
        Check.inQueue(just, "behind both", 2, 3);
    }

    private static void onePasserAMinute() {
        Check.sentence("The next passer, if there is one; they come as they are told");
        ElbowQueue q = Check.town("q0,0;" + NEEDLESS);
        for (int minute = 1; minute <= 8; minute++) {
            Check.due("minute " + minute, q.minutes(1), minute);
            Check.due("the last", q.place(minute - 1), minute - 1);
            Check.due("to come still", minute < 8 ? q.person(minute, 1) : 0, 0);
        }
        Check.due("there is none", q.minutes(1), 8);
        ElbowQueue by = Check.town("q0,0;pf9,0,1;pf9,0,1;pf9,0,0;");
        by.minutes(2);
        Check.due("the first went by", by.person(0, 1), 4);
        Check.due("the second went by", by.person(1, 1), 4);
        Check.due("the third comes", by.minutes(1), 1);
    }

    private static ElbowQueue anyTown() {
        return Check.town("q1,4;f9,0;b5,0;w3,2;d8,3;pb6,0,4;pw3,3,7;");
    }

    private static void howManyMinutes() {
        Check.sentence("Promise 9: n MINUTES (1 to 20) go by");
        new Edges("minutes", ActEdgesTest::anyTown, ElbowQueue::minutes).only(1, 20);
        for (int n = 1; n <= 20; n++) {
            ElbowQueue q = Check.town("q0,0;f99,0;");
            Check.due("minutes(" + n + ")", q.minutes(n), 1);
            Check.counts(q, "minutes(" + n + ")", 0, 1, 0, n, 1, 0, 0, n, 0);
            Check.due("has stood", q.person(0, 2), n);
        }
    }

    private static void anActEach() {
        Check.sentence("Promise 9: an ACT each: how many are in the QUEUE then");
        ElbowQueue q = Check.town("q0,2;f99,0;f99,0;f99,0;pf99,0,0;");
        Check.due("minutes(5)", q.minutes(5), 2);
        int[] sizes = {2, 3, 3, 4, 3};
        for (int left = 4; left >= 0; left--) {
            Check.due("undo", q.undo(), left);
            Check.due("minute", q.count(3), left);
            Check.due("in the queue", q.count(4), sizes[4 - left]);
        }
    }

    private static ElbowQueue atMinute(int minute) {
        ElbowQueue q = Check.town("q0,0;f99,0;");
        for (int left = minute; left > 0; left -= 20) {
            q.minutes(Math.min(left, 20));
        }
        Check.due("minute", q.count(3), minute);
        return q;
    }

    private static void beyondTheLastMinute() {
        Check.sentence("Promise 9: FULL: beyond MINUTE 999");
        for (int n = 1; n <= 20; n++) {
            ElbowQueue just = atMinute(999 - n);
            Check.due("to 999 by " + n, just.minutes(n), 0);
            Check.due("minute", just.count(3), 999);
            Check.due("one more", just.minutes(1), Check.FULL);
            ElbowQueue beyond = atMinute(1000 - n);
            Check.due("to 1000 by " + n, beyond.minutes(n), Check.FULL);
            Check.due("no minute goes by", beyond.count(3), 1000 - n);
            Check.due("acts", beyond.count(7), 24);
        }
        ElbowQueue q = atMinute(999);
        Check.due("undone", q.undo(), 23);
        Check.due("998, and one more", q.minutes(1), 0);
        Check.due("999", q.minutes(1), Check.FULL);
        Check.due("other acts are taken", q.hatch(1, 1), 0);
        Check.due("a new town", Check.read(q, "q0,0;f9,0;"), 1);
        Check.due("from minute 0 on", q.minutes(20), 0);
    }

    private static void stateBadFull() {
        Check.sentence("Promise 9: BAD; STATE: no TOWN (ahead of BAD); FULL");
        new Edges("minutes without a town", ElbowQueue::new, ElbowQueue::minutes).below(1, Check.STATE)
            .above(20, Check.STATE);
        Check.due("without a town", new ElbowQueue().minutes(1), Check.STATE);
        Check.due("21 at 999", atMinute(999).minutes(21), Check.BAD);
        Check.due("0 at 999", atMinute(999).minutes(0), Check.BAD);
        Check.due("the greatest at 999", atMinute(999).minutes(Integer.MAX_VALUE), Check.BAD);
    }

    private static void whatIsSaid() {
        Check.sentence("Promise 10: Something (0 to 3) is SAID to one: what he BELIEVED");
        new Edges("say", ActEdgesTest::anyTown, (q, word) -> q.say(1, word)).only(0, 3);
        for (int before = 0; before <= 3; before++) {
            for (int word = 0; word <= 3; word++) {
                ElbowQueue q = Check.town("q0,0;b9,0;d9," + before + ";");
                Check.due("what he believed", q.say(1, word), before);
                Check.belief(q, "said " + word, 1, word, 1);
                Check.belief(q, "nobody else", 0, 0, 0);
                Check.due("acts", q.count(7), 1);
            }
        }
    }

    private static void saidByHimself() {
        Check.sentence("something is SAID: he BELIEVES it, by himself (ORIGIN)");
        ElbowQueue q = Check.town("q0,0;d99,2;b99,0;b99,0;");
        q.minutes(2);
        Check.belief(q, "told on", 2, 2, 0);
        Check.due("the same is said", q.say(2, 2), 2);
        Check.belief(q, "by himself", 2, 2, 2);
        Check.due("nothing is said", q.say(1, 0), 2);
        Check.belief(q, "nothing, by himself", 1, 0, 1);
        q.minutes(1);
        Check.belief(q, "told on again", 1, 2, 0);
        Check.belief(q, "his own stays", 2, 2, 2);
    }

    /** 0 is in the queue, 1 is served, 2 has left, 3 is gone by, 4 is to come. */
    private static ElbowQueue ofAllStates() {
        ElbowQueue q = Check.town("q0,1;f99,0;d0,0;f99,0;pf9,0,9;pf9,0,0;");
        q.minutes(1);
        return q;
    }

    private static void whoCanBeTold() {
        Check.sentence("Promise 10: BAD; STATE: he is not in the QUEUE");
        Check.due("served", ofAllStates().say(0, 1), Check.STATE);
        Check.due("left", ofAllStates().say(1, 1), Check.STATE);
        Check.due("in the queue", ofAllStates().say(2, 1), 0);
        Check.due("by", ofAllStates().say(3, 1), Check.STATE);
        Check.due("to come", ofAllStates().say(4, 1), Check.STATE);
        new Edges("say to nobody", ActEdgesTest::ofAllStates, (q, person) -> q.say(person, 0)).below(0, Check.BAD)
            .above(4, Check.BAD);
        Check.due("BAD ahead of STATE, above", ofAllStates().say(1, 4), Check.BAD);
        Check.due("BAD ahead of STATE, below", ofAllStates().say(1, -1), Check.BAD);
        Check.due("no town", new ElbowQueue().say(0, 0), Check.BAD);
    }

    private static void whoCanGo() {
        Check.sentence("Promise 11: BAD; STATE: he is not in it");
        Check.due("served", ofAllStates().go(0), Check.STATE);
        Check.due("left", ofAllStates().go(1), Check.STATE);
        Check.due("in the queue", ofAllStates().go(2), 0);
        Check.due("by", ofAllStates().go(3), Check.STATE);
        Check.due("to come", ofAllStates().go(4), Check.STATE);
        new Edges("go of nobody", ActEdgesTest::ofAllStates, ElbowQueue::go).below(0, Check.BAD).above(4, Check.BAD);
        Check.due("no town", new ElbowQueue().go(0), Check.BAD);
        ElbowQueue q = ofAllStates();
        q.go(2);
        Check.due("gone already", q.go(2), Check.STATE);
        Check.person(q, "he has left", 2, Check.NONE, 3, 1);
    }

    private static void placesMoveUp() {
        Check.sentence("Promise 11: One GOES: how many are in the QUEUE then");
        for (int person = 0; person < 8; person++) {
            ElbowQueue q = Check.town("q0,0;" + CROWD);
            Check.due("go(" + person + ")", q.go(person), 7);
            for (int k = 0; k < 7; k++) {
                Check.due("place " + k, q.place(k), k < person ? k : k + 1);
            }
            Check.due("place 7", q.place(7), Check.NONE);
        }
        ElbowQueue last = Check.town("q0,0;f9,0;");
        Check.due("the last one", last.go(0), 0);
        Check.inQueue(last, "nobody");
    }

    private static void hatches() {
        Check.sentence("Promise 12: A HATCH: 10 times CAUSE, and SERVES, as they were");
        new Edges("hatch, cause", ActEdgesTest::anyTown, (q, cause) -> q.hatch(cause, 0)).only(0, 3);
        new Edges("hatch, serves", ActEdgesTest::anyTown, (q, serves) -> q.hatch(0, serves)).only(0, 9);
        new Edges("hatch without a town", ElbowQueue::new, (q, cause) -> q.hatch(cause, 0)).below(0, Check.STATE)
            .above(-1, Check.STATE);
        ElbowQueue q = Check.town("q2,8;");
        int before = 28;
        for (int cause = 0; cause <= 3; cause++) {
            for (int serves = 0; serves <= 9; serves++) {
                Check.due("as they were", q.hatch(cause, serves), before);
                Check.due("cause", q.count(5), cause);
                Check.due("serves", q.count(6), serves);
                before = 10 * cause + serves;
            }
        }
    }

    private static void hatchOfTheSame() {
        Check.sentence("a HATCH: CAUSE and SERVES are others; an ACT each");
        ElbowQueue q = Check.town("q2,8;");
        Check.due("as it was", q.hatch(2, 8), 28);
        Check.due("acts", q.count(7), 1);
        Check.due("undone", q.undo(), 0);
        Check.counts(q, "undone", 0, 0, 0, 0, 0, 2, 8, 0, 0);
    }

    private static void actsAtMost() {
        Check.sentence("ACTS (24 at most are kept)");
        ElbowQueue q = Check.town("q0,0;b99,0;");
        for (int n = 1; n <= 30; n++) {
            q.say(0, n % 4);
            Check.due("acts", q.count(7), Math.min(n, 24));
        }
        for (int left = 23; left >= 0; left--) {
            Check.due("undo", q.undo(), left);
            Check.due("what he believes", q.person(0, 3), (left + 6) % 4);
        }
        Check.due("none is left", q.undo(), Check.STATE);
        Check.due("what he believes still", q.person(0, 3), 2);
    }

    private static void oldestIsForgotten() {
        Check.sentence("of more the oldest is forgotten");
        ElbowQueue just = Check.town("q1,1;f99,0;");
        just.hatch(3, 0);
        just.minutes(20);
        just.minutes(3);
        for (int n = 0; n < 24; n++) {
            just.undo();
        }
        Check.counts(just, "24 acts, all undone", 0, 1, 0, 0, 1, 1, 1, 0, 0);
        ElbowQueue more = Check.town("q1,1;f99,0;");
        more.hatch(3, 0);
        more.minutes(20);
        more.minutes(4);
        for (int n = 0; n < 24; n++) {
            more.undo();
        }
        Check.counts(more, "25 acts, 24 undone", 0, 1, 0, 0, 1, 3, 0, 0, 0);
        Check.due("the hatch is forgotten", more.undo(), Check.STATE);
        Check.counts(more, "it stays open", 0, 1, 0, 0, 1, 3, 0, 0, 0);
    }

    /** Undone and made again over and over: what is kept goes round. */
    private static void ringOfAllActs() {
        Check.sentence("24 at most are kept: again and again");
        ElbowQueue q = Check.town("q0,0;f99,0;f99,0;");
        int minute = 0;
        for (int round = 0; round < 4; round++) {
            q.minutes(17);
            minute += 17;
            for (int n = 0; n < 7; n++) {
                q.undo();
                minute--;
                Check.due("minute", q.count(3), minute);
            }
        }
        Check.due("acts", q.count(7), 17);
        q.hatch(1, 5);
        q.say(1, 2);
        q.go(0);
        Check.due("go", q.undo(), 19);
        Check.inQueue(q, "go", 0, 1);
        Check.due("say", q.undo(), 18);
        Check.due("hatch", q.undo(), 17);
        Check.counts(q, "hatch", 0, 2, 0, minute, 2, 0, 0, 17, 0);
    }

    private static void noneToUndo() {
        Check.sentence("Promise 13: STATE: none");
        Check.due("no town", new ElbowQueue().undo(), Check.STATE);
        ElbowQueue q = anyTown();
        Check.due("a new town", q.undo(), Check.STATE);
        q.minutes(1);
        Check.due("one act", q.undo(), 0);
        Check.due("none more", q.undo(), Check.STATE);
        q.minutes(2);
        q.image(0);
        Check.due("an image leaves them", q.count(7), 2);
        q.restore(0);
        Check.due("restored", q.undo(), Check.STATE);
        Check.due("minute", q.count(3), 2);
        q.minutes(1);
        Check.read(q, "q0,0;");
        Check.due("a town that is read", q.undo(), Check.STATE);
    }

    private static void undoneLatestFirst() {
        Check.sentence("each can be undone, the latest first");
        ElbowQueue q = Check.town("q1,2;f9,0;b9,0;d1,3;pw9,0,0;");
        q.say(1, 2);
        q.hatch(3, 1);
        q.minutes(1);
        q.go(1);
        Check.due("go", q.undo(), 3);
        Check.inQueue(q, "go", 1, 3);
        Check.due("where he is", q.person(1, 1), 1);
        Check.due("minute", q.undo(), 2);
        Check.inQueue(q, "minute", 0, 1, 2);
        Check.person(q, "served", 0, 0, 1, 0, 3, 9, 0);
        Check.person(q, "left", 2, 2, 1, 0, 3, 1, 2);
        Check.person(q, "joined", 3, Check.NONE, 0, 0, 0, 9, 3);
        Check.due("hatch", q.undo(), 1);
        Check.counts(q, "hatch", 0, 4, 1, 0, 3, 1, 2, 1, 0);
        Check.due("say", q.undo(), 0);
        Check.belief(q, "say", 1, 0, 1);
        Check.due("the passer comes again", q.minutes(1), 3);
        Check.inQueue(q, "again", 0, 1, 3);
    }

    private static void undoneOfAFullHouse() {
        Check.sentence("each can be undone: of all 16 PEOPLE");
        ElbowQueue q = Check.town("q0,0;" + CROWD + NEEDLESS.substring(9) + "pb99,2,0;");
        q.minutes(10);
        Check.due("said to the last", q.say(15, 1), 2);
        Check.due("the last goes", q.go(15), 15);
        Check.due("he comes back", q.undo(), 11);
        Check.person(q, "he comes back", 15, 15, 1, 2, 1, 99, 15);
        Check.due("nothing was said", q.undo(), 10);
        Check.person(q, "nothing was said", 15, 15, 1, 2, 2, 99, 15);
        Check.due("a minute", q.undo(), 9);
        Check.person(q, "a minute", 15, 15, 1, 1, 2, 99, 15);
        q.undo();
        Check.person(q, "he has joined", 15, 15, 1, 0, 2, 99, 15);
        q.undo();
        Check.person(q, "he is to come", 15, Check.NONE, 0, 0, 2, 99, 15);
    }

    private static void saidInVainIsAnAct() {
        Check.sentence("ACTS: something is SAID to one in the QUEUE: to a first one, too");
        ElbowQueue q = Check.town("q2,0;f9,0;");
        Check.due("said", q.say(0, 1), 2);
        Check.due("acts", q.count(7), 1);
        Check.due("undone", q.undo(), 0);
        Check.belief(q, "undone", 0, 2, 0);
    }

    private static void refusedIsNoAct() {
        Check.sentence("What is refused changes nothing: it is no ACT");
        ElbowQueue q = ofAllStates();
        q.minutes(0);
        q.say(0, 1);
        q.say(2, 4);
        q.go(0);
        q.go(5);
        q.hatch(4, 0);
        Check.due("acts", q.count(7), 1);
        Check.due("the minute is the latest", q.undo(), 0);
        Check.due("minute", q.count(3), 0);
    }

    private static void whatOfAPerson() {
        Check.sentence("Promise 14: Of one: 0 .. 5. BAD");
        new Edges("person", ActEdgesTest::anyTown, (q, what) -> q.person(1, what)).only(0, 5);
    }

    private static void personsOfATown() {
        Check.sentence("Promise 14: BAD: there is no such PERSON");
        for (int n = 0; n <= 8; n++) {
            String town = "q0,0;" + CROWD.substring(0, 6 * n) + NEEDLESS.substring(0, 9 * n);
            new Edges("person of " + 2 * n, () -> Check.town(town), (q, person) -> q.person(person, 4))
                .only(0, 2 * n - 1);
        }
        Check.due("no town", new ElbowQueue().person(0, 0), Check.BAD);
    }

    private static void whereOneIs() {
        Check.sentence("to come (0), in the QUEUE (1), SERVED (2), has LEFT (3), gone BY (4); NONE: not in the QUEUE");
        ElbowQueue q = ofAllStates();
        Check.person(q, "served", 0, Check.NONE, 2, 0);
        Check.person(q, "left", 1, Check.NONE, 3, 1);
        Check.person(q, "in the queue", 2, 0, 1, 1);
        Check.person(q, "by", 3, Check.NONE, 4, 0);
        Check.person(q, "to come", 4, Check.NONE, 0, 0);
        q.minutes(1);
        Check.person(q, "joined", 4, 0, 1, 0);
        q.minutes(1);
        Check.person(q, "served", 4, Check.NONE, 2, 0);
        Check.person(q, "who left stands no more", 1, Check.NONE, 3, 1);
    }

    private static void places() {
        Check.sentence("Promise 15: Who is at a PLACE (0 on); NONE. BAD: below 0");
        new Edges("place", ActEdgesTest::anyTown, ElbowQueue::place).from(0);
        new Edges("place without a town", ElbowQueue::new, ElbowQueue::place).from(0);
        ElbowQueue q = Check.town("q0,0;" + CROWD + NEEDLESS);
        for (int minute = 0; minute <= 8; minute++) {
            Check.due("the last", q.place(7 + minute), 7 + minute);
            Check.due("behind the last", q.place(8 + minute), Check.NONE);
            q.minutes(1);
        }
        Check.due("far", q.place(Integer.MAX_VALUE), Check.NONE);
        Check.due("no town", new ElbowQueue().place(0), Check.NONE);
    }
}
