/** Calls at the last value that is taken and at the first one that is not, each on an object anew. */
final class Edges {
    /** A call whose one number is at an edge. */
    interface At {
        int on(TownAsks x, int value);
    }

    private final Check check;

    Edges(Check check) {
        this.check = check;
    }

    /** The call answers as due, and that is no finding. */
    void taken(String call, int want, Scene.Act act) {
        taken(call, want, Scene.NOTHING, act);
    }

    void taken(String call, int want, Scene.Act ahead, Scene.Act act) {
        TownAsks x = Scene.rich();
        ahead.on(x);
        int before = x.told(7);
        check.due(call, act.on(x), want);
        check.due(call + " is no finding", x.told(7), before);
    }

    /** The call answers this finding, once, and all else is as if it had not been tried. */
    void refused(String call, int want, Scene.Act act) {
        refused(call, want, Scene.NOTHING, act);
    }

    void refused(String call, int want, Scene.Act ahead, Scene.Act act) {
        TownAsks x = Scene.rich();
        ahead.on(x);
        int before = x.told(7);
        check.due(call, act.on(x), want);
        check.due(call + " is counted", x.told(7), before + 1);
        check.dueText("all after " + call, Scene.allAfter(ahead, act), Scene.allAfter(ahead));
    }

    /** From least to most is taken, and what is beyond it on either side is BEYOND. */
    void range(String what, int least, int most, At call) {
        for (int value : new int[] {least, most}) {
            TownAsks x = Scene.rich();
            int before = x.told(7);
            int answer = call.on(x, value);
            check.due(what + " " + value + " is taken", answer < -1000000 ? answer : 0, 0);
            check.due(what + " " + value + " is no finding", x.told(7), before);
        }
        below(what, least, call);
        above(what, most, call);
    }

    void below(String what, int least, At call) {
        refused(what + " " + (least - 1), Check.BEYOND, x -> call.on(x, least - 1));
        refused(what + " least", Check.BEYOND, x -> call.on(x, Integer.MIN_VALUE));
    }

    void above(String what, int most, At call) {
        refused(what + " " + (most + 1), Check.BEYOND, x -> call.on(x, most + 1));
        refused(what + " most", Check.BEYOND, x -> call.on(x, Integer.MAX_VALUE));
    }
}
