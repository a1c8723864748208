/** The edges that the document names in promises 15 to 20, sentence by sentence. */
final class BelievedEdgesTest {
    private static void believes() {
        Check.says("What a SLEEPER would BELIEVE of a FLOWER tonight. BAD.");
        EarwigPost x = Given.told("sleeper0 0;sleeper2 9;flower0 9 5;flower4 9 0;");
        Check.due("believes(-1, 0)", x.believes(-1, 0), -2);
        Check.due("believes(2, 0)", x.believes(2, 0), -2);
        Check.due("believes(0, -1)", x.believes(0, -1), -2);
        Check.due("believes(0, 2)", x.believes(0, 2), -2);
        Check.due("no flower", Given.told("sleeper0 0;").believes(0, 0), -2);
        Check.due("nobody", Given.told("flower0 1 0;").believes(0, 0), -2);

        Check.says("what a SLEEPER would BELIEVE of it tonight, wherever it is sent");
        Check.due("it is sent to 5, he lies on 0", x.believes(0, 0), 9);
        Check.due("it is sent to 5, he lies on 1", x.believes(1, 0), 1);
        Check.due("it is sent to him", x.believes(0, 1), 11);
        x.nights(1);
        Check.due("tonight it is silent", x.believes(0, 1), 0);
        Check.due("a politician, too, believes nothing of what is not told", x.believes(1, 1), 0);
    }

    private static void beyondTheEnd() {
        Check.says("(Nothing is changed by these; NIGHTS go beyond 999, MIND does not, in them.)");
        EarwigPost x = Given.inNight(999);
        x.sleeper(0);
        x.flower(4, 7, 0);
        long before = x.digest();
        // a tulip is 9 in nights 1000, 1002, 1004
        int[] minds = {0, 0, 9, 9, 18, 18, 27};
        for (int m = 0; m < minds.length; m++) {
            Check.due("then(0, " + m + ") at 999", x.then(0, m), minds[m]);
        }
        Check.due("then(0, 60) at 999", x.then(0, 60), 270);
        Check.due("when(0) at 999", x.when(0), 6);
        Check.due("send(0, 0) at 999", x.send(0, 0), 6);
        Check.due("nothing is changed", x.digest(), before);
        x.sends(0, 1);
        Check.due("when(0), sent elsewhere", x.when(0), -1);
        Check.due("send(0, 0), sent elsewhere", x.send(0, 0), 6);
        x.sends(0, 0);
        x.sleeper(5);
        x.swaps(0, 1);
        Check.due("decades in night 999", x.decades(1, 1), 0);
        Check.due("decades in nights 999, 1000: the actress has 20", x.decades(1, 2), 1);
        Check.due("the night stays", x.count(2), 999);
        x = Given.told("sleeper5 0;flower0 9 0;nights49;");
        Check.due("mind of 980", x.then(0, 0), 980);
        Check.due("mind of 999 and no more", x.then(0, 1), 999);
        Check.due("mind of 999 in 60", x.then(0, 60), 999);
    }

    private static void then() {
        Check.says("THEN: MIND behind m (0 .. 60) NIGHTS.");
        EarwigPost x = Given.told("sleeper0 0;flower0 1 0;nights7;");
        Check.due("then(0, 0)", x.then(0, 0), 7);
        Check.due("then(0, 1)", x.then(0, 1), 8);
        Check.due("then(0, 60)", x.then(0, 60), 67);
        Check.due("then(0, 61)", x.then(0, 61), -2);
        Check.due("then(0, -1)", x.then(0, -1), -2);
        Check.due("then(1, 0)", x.then(1, 0), -2);
        Check.due("then(-1, 0)", x.then(-1, 0), -2);
    }

    private static void when() {
        Check.says("WHEN: in how many NIGHTS (0 .. 60) one does it first; none.");
        Check.due("at 20", Given.told("sleeper0 0;flower0 1 0;nights20;").when(0), 0);
        Check.due("at 19", Given.told("sleeper0 0;flower0 1 0;nights19;").when(0), 1);
        Check.due("at 0", Given.told("sleeper0 0;flower0 1 0;").when(0), 20);
        Check.due("at 999", Given.told("sleeper0 0;flower0 9 0;flower0 9 0;nights60;").when(0), 0);
        EarwigPost x = Given.told("nights1;sleeper0 0;flower5 2 0;");
        Check.due("1 in each third night, from night 1", x.when(0), 60);
        Check.due("1 in each third night, from night 0", Given.told("sleeper0 0;flower5 2 0;").when(0), 58);
        Check.due("he has less 59 nights on", x.then(0, 59), 19);
        Check.due("he has it 60 nights on", x.then(0, 60), 20);
        Check.due("nothing is sent to him", Given.told("sleeper0 0;flower0 9 1;").when(0), -1);
        Check.due("he believes nothing", Given.told("sleeper0 9;flower0 9 0;").when(0), -1);
        x = Given.told("sleeper0 0;flower0 1 0;nights19;");
        x.sends(0, 1);
        Check.due("at 19, nothing is sent to him", x.when(0), -1);
        x.sends(0, 0);
        x.nights(1);
        x.sends(0, 1);
        Check.due("at 20, nothing is sent to him", x.when(0), 0);
        Check.due("when(1)", x.when(1), -2);
        Check.due("when(-1)", x.when(-1), -2);
    }

    private static void pillows() {
        Check.says("PILLOWS: how much (i = NONE), on which one is. BAD: -10.");
        EarwigPost x = Given.told("sleeper0 0;flower0 9 3;");
        Check.due("how much", x.pillows(1, -1), 9);
        Check.due("on which", x.pillows(1, 0), 3);
        Check.due("pillows(2, -1)", x.pillows(2, -1), -10);
        Check.due("pillows(-1, -1)", x.pillows(-1, -1), -10);
        Check.due("pillows(1, -2)", x.pillows(1, -2), -10);
        Check.due("pillows(1, 1)", x.pillows(1, 1), -10);
        Check.due("pillows(0, 1)", x.pillows(0, 1), -10);
        Check.due("of nobody, how much", new EarwigPost().pillows(1, -1), 0);
        Check.due("of nobody, how little", new EarwigPost().pillows(0, -1), 0);
        Check.due("of nobody, on which", new EarwigPost().pillows(1, 0), -10);
        Check.due("each counts as BAD", x.status(0), 5);

        Check.says("(on any PILLOWS, no two on one), so that all together BELIEVE most, or least, tonight");
        duePlaces("sleeper0 0;sleeper0 0;flower0 9 5;", 1, 9, 0, 5);
        duePlaces("sleeper0 0;sleeper0 0;flower0 9 0;", 0, 0, 1, 2);
        duePlaces("sleeper0 0;sleeper5 0;flower0 9 0;flower0 1 1;", 1, 21, 1, 0);
        duePlaces("sleeper0 0;sleeper5 0;flower0 9 0;flower0 1 1;", 0, 0, 2, 3);
        duePlaces("sleeper0 0;sleeper0 0;sleeper0 0;sleeper0 0;sleeper0 0;sleeper1 0;flower0 9 3;", 0, 4, 0, 1, 2, 4, 5, 3);
        duePlaces("sleeper1 0;sleeper0 0;sleeper0 0;sleeper0 0;sleeper0 0;sleeper0 0;flower0 9 3;", 1, 9, 0, 1, 2, 3, 4, 5);
        duePlaces("sleeper0 0;flower4 9 5;flower0 4 2;", 1, 11, 5);
        duePlaces("sleeper0 0;flower4 9 5;flower0 4 2;nights1;", 1, 4, 2);

        Check.says("in the first such way (SLEEPER 0 on the least PILLOW, then SLEEPER 1, ..)");
        duePlaces("sleeper0 0;", 1, 0, 0);
        duePlaces("sleeper0 0;sleeper0 0;sleeper0 0;", 0, 0, 0, 1, 2);
        duePlaces("sleeper0 0;sleeper0 0;flower0 3 4;flower0 3 2;", 1, 6, 2, 4);
        duePlaces("sleeper0 0;sleeper0 0;flower0 3 0;flower0 5 1;", 1, 8, 0, 1);
        duePlaces("sleeper0 0;sleeper0 0;swap0 5;flower0 3 4;", 1, 3, 0, 4);
        duePlaces("sleeper0 9;sleeper0 0;flower0 3 1;flower0 3 2;", 1, 3, 0, 1);
    }

    private static void duePlaces(String items, int most, int much, int... places) {
        EarwigPost x = Given.told(items);
        Check.due("pillows(" + most + ", -1) of '" + items + "'", x.pillows(most, -1), much);
        for (int i = 0; i < places.length; i++) {
            Check.due("pillows(" + most + ", " + i + ") of '" + items + "'", x.pillows(most, i), places[i]);
        }
        Check.due("no more of '" + items + "'", x.pillows(most, places.length), -10);
    }

    private static void least() {
        Check.says("the least WOOL (0 .. 9) by which he BELIEVES nothing tonight; none.");
        dueLeast("sleeper0 0;", 0);
        dueLeast("sleeper0 5;", 0);
        dueLeast("sleeper0 0;flower0 9 1;", 0);
        dueLeast("sleeper0 0;flower0 1 0;", 1);
        dueLeast("sleeper0 0;flower1 7 0;", 9);
        dueLeast("sleeper0 0;flower1 8 0;", -1);
        dueLeast("sleeper0 0;flower0 9 0;flower0 2 0;", 9);
        dueLeast("sleeper0 0;flower0 2 0;flower0 9 0;", 9);
        dueLeast("sleeper1 0;flower0 1 0;", 0);
        dueLeast("sleeper1 0;flower1 8 0;", 9);
        dueLeast("sleeper1 0;flower1 9 0;", -1);
        dueLeast("sleeper2 0;flower0 1 0;", -1);
        dueLeast("sleeper2 0;flower4 9 0;nights1;", 0);
        dueLeast("sleeper3 0;flower0 3 0;", 0);
        dueLeast("sleeper3 0;flower0 4 0;", 3);
        dueLeast("sleeper4 0;flower0 9 0;", 9);
        dueLeast("sleeper4 0;flower1 8 0;", -1);
        dueLeast("sleeper5 0;flower0 1 0;", -1);
        dueLeast("sleeper5 0;flower5 1 0;", 0);
        EarwigPost x = Given.told("sleeper0 0;");
        Check.due("least(1)", x.least(1), -2);
        Check.due("least(-1)", x.least(-1), -2);
    }

    private static void dueLeast(String items, int wool) {
        Check.due("least(0) of '" + items + "'", Given.told(items).least(0), wool);
    }

    private static void send() {
        Check.says("SEND: in how many NIGHTS (0), which (1). NONE. BAD.");
        EarwigPost x = Given.told("sleeper0 0;flower0 5 1;");
        Check.due("send(0, 2)", x.send(0, 2), -2);
        Check.due("send(0, -1)", x.send(0, -1), -2);
        Check.due("send(1, 0)", x.send(1, 0), -2);
        Check.due("send(-1, 0)", x.send(-1, 0), -2);

        Check.says("(one that is sent there already, too), would have him do it soonest: in how many NIGHTS (0 .. 60)");
        dueSend("sleeper0 0;flower0 5 1;", 4, 0);
        dueSend("sleeper0 0;flower0 5 0;", 4, 0);
        dueSend("sleeper0 0;flower0 5 0;flower0 1 1;", 4, 0);
        dueSend("sleeper0 0;flower0 5 0;flower0 2 1;", 3, 1);
        dueSend("sleeper0 0;flower0 2 1;flower0 5 0;", 3, 0);
        dueSend("sleeper0 0;flower0 9 0;flower0 9 0;flower0 2 1;", 1, 2);
        dueSend("nights1;sleeper0 0;flower5 2 3;", 60, 0);
        dueSend("sleeper0 0;flower0 5 0;nights4;", 0, 0);
        dueSend("sleeper0 0;flower5 1 3;flower0 5 0;nights4;", 0, 0);

        Check.says("which (of like ones the first); none.");
        dueSend("sleeper0 0;flower0 5 1;flower0 5 2;flower0 5 3;", 4, 0);
        dueSend("sleeper0 0;flower0 4 1;flower0 5 2;flower0 6 3;flower0 5 4;", 4, 1);
        dueSend("sleeper0 0;", -1, -1);
        dueSend("sleeper0 9;flower0 9 0;flower0 9 1;", -1, -1);
        dueSend("sleeper0 9;flower0 9 0;flower1 9 1;", 10, 1);
    }

    private static void dueSend(String items, int nights, int which) {
        EarwigPost x = Given.told(items);
        Check.due("send(0, 0) of '" + items + "'", x.send(0, 0), nights);
        Check.due("send(0, 1) of '" + items + "'", x.send(0, 1), which);
    }

    public static void main(String[] args) {
        believes();
        beyondTheEnd();
        then();
        when();
        pillows();
        least();
        send();
        Check.end();
    }
}
