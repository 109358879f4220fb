import java.util.ArrayList;
import java.util.List;
import java.util.function.Consumer;

/** A HILL on which something of every kind is told, and a view of all that an object answers. */
final class Scene {
    static final String HILL = "box a warm zero -1 to 1 slope 9 to 10 lag 0 to 1 tire 0 to 1 off 0;"
        + "box w wind zero 0 to 1 slope 10 to 10 lag 0 to 0 tire 0 to 0 off 1;"
        + "box r rain zero 0 to 0 slope 10 to 10 lag 0 to 0 tire 0 to 0 off 0;"
        + "moved a on 4;fresh a on 3;broken w 5 to 5;holiday 6 to 6;made 0 to 2;";
    static final String RULES = "if last r>2 say wet;if day<5 say dry;";
    static final String ON_TAPE = "if 1 say wet;";
    private static final int LAST = 6;
    private static final int TIME = 7;

    private Scene() {
    }

    static GreyBoxes make() {
        GreyBoxes x = new GreyBoxes();
        Check.hill(x, HILL);
        Check.rules(x, RULES);
        for (int day = 0; day <= LAST; day++) {
            x.far(0, day, 10 + day);
            x.far(2, day, day % 3 * 4);
            x.far(3, day, 14 + day & 15);
            x.read(0, day, day % 2, 9 + day);
            x.read(1, day, 2, 15 + 3 * day & 15);
            x.read(2, day, 3, day % 3 * 2);
        }
        x.later(TIME);
        x.untell(3);
        x.read(2, 4, 5, 4);
        x.doubt(1, true);
        x.share(1, true);
        x.share(2, true);
        x.share(5, true);
        Check.tape(x, ON_TAPE);
        return x;
    }

    /** Some 400 calls, the last of which change what they look at: an object can be viewed once. */
    static List<String> view(GreyBoxes x) {
        List<String> seen = new ArrayList<>();
        seen.add("fault(0) " + x.fault(0));
        seen.add("fault(1) " + x.fault(1));
        seen.add("about(6) " + x.about(6));
        seen.addAll(viewWithoutText(x));
        seen.add("rules() of the TAPE " + x.rules());
        seen.add("its fault(0) " + x.fault(0));
        seen.add("its fault(1) " + x.fault(1));
        return seen;
    }

    static List<String> viewWithoutText(GreyBoxes x) {
        List<String> seen = new ArrayList<>();
        for (int what = 0; what <= 7; what++) {
            if (what != 6) {
                seen.add("about(" + what + ") " + x.about(what));
            }
        }
        for (int day = 0; day <= LAST; day++) {
            seeDay(x, day, seen);
        }
        seeTrials(x, seen);
        for (int day = 0; day < 60; day++) {
            seen.add("share(" + day + ", true) " + x.share(day, true));
        }
        for (int fact = 0; fact <= 43; fact++) {
            seen.add("untell(" + fact + ") " + x.untell(fact));
        }
        return seen;
    }

    private static void seeDay(GreyBoxes x, int day, List<String> seen) {
        for (int q = 0; q < 4; q++) {
            seen.add("farOf " + q + " on " + day + ": " + x.farOf(q, day, TIME));
        }
        for (int box = 0; box < 3; box++) {
            String on = " of " + box + " on " + day + ": ";
            seen.add("reading" + on + x.reading(box, day, TIME));
            seen.add("wrong" + on + x.wrong(box, day, TIME));
            seen.add("least RIGHT" + on + x.right(box, day, false, TIME));
            seen.add("greatest RIGHT" + on + x.right(box, day, true, TIME));
            seen.add("greatest SHOWN" + on + x.shown(box, day, true, TIME));
        }
        seen.add("a reading ahead of now on " + day + ": " + x.reading(2, day, TIME - 1));
        seen.add("says " + day + ": " + x.says(day, TIME));
    }

    private static void seeTrials(GreyBoxes x, List<String> seen) {
        for (int box = 0; box < 3; box++) {
            seen.add("laws of " + box + ": " + x.laws(box, 0, TIME));
            seen.add("misses of " + box + ": " + x.misses(box, 59, TIME));
            seen.add("frost of " + box + ": " + x.frost(box, 0, TIME));
            seen.add("law of " + box + ": " + x.law(box, 0, 0, 1, TIME));
            seen.add("learnt of " + box + ": " + x.learnt(box, 0, TIME));
            seen.add("sum of " + box + ": " + x.sum(box, 0, 59, 1, TIME));
            seen.add("sure of " + box + ": " + x.sure(box, 0, 59, TIME));
        }
        seen.add("habit " + x.habit(0, TIME));
        seen.add("next " + x.next(TIME));
        seen.add("tried " + x.tried(1, TIME));
        seen.add("luck " + x.luck(1, TIME));
        seen.add("rule " + x.rule(1, 0, TIME));
    }

    /** After what is done the object answers all as one to which nothing was done. */
    static void untouchedBy(String what, Consumer<GreyBoxes> done) {
        GreyBoxes x = make();
        done.accept(x);
        same(what, view(x), view(make()));
    }

    /** The same, but for the TAPE and the FAULT. */
    static void untouchedButTextBy(String what, Consumer<GreyBoxes> done) {
        GreyBoxes x = make();
        done.accept(x);
        same(what, viewWithoutText(x), viewWithoutText(make()));
    }

    private static void same(String what, List<String> got, List<String> want) {
        for (int i = 0; i < want.size(); i++) {
            boolean like = got.get(i).equals(want.get(i));
            Check.due(what + " changed something: " + got.get(i) + " was " + want.get(i) + ", its likeness", like, true);
        }
    }
}
