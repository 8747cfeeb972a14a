import java.util.function.IntUnaryOperator;

/** What the tests of the document's edges share: a sentence with a test of its own, and small cities. */
abstract class Edges extends Due {
    /** The test must ask something, and a call that throws breaks its sentence too. */
    static void sentence(String words, Runnable test) {
        int askedBefore = asked(), wrongBefore = wrong();
        try {
            test.run();
        } catch (RuntimeException thrown) {
            due(words + ": threw " + thrown, 1, 0);
        }
        if (asked() == askedBefore) due(words + ": nothing was asked", 1, 0);
        if (wrong() != wrongBefore) System.out.println("BROKEN: " + words);
    }

    /** The call is refused with BAD just below the least, just above the most, and far beyond both. */
    static void dueBadOutside(String call, int least, int most, IntUnaryOperator answer) {
        due(call + " with " + (least - 1), answer.applyAsInt(least - 1), WaterMen.BAD);
        due(call + " with " + (most + 1), answer.applyAsInt(most + 1), WaterMen.BAD);
        for (int wild : WILD) {
            if (wild < least || wild > most) due(call + " with " + wild, answer.applyAsInt(wild), WaterMen.BAD);
        }
    }

    static WaterMen withFountains(int... flows) {
        WaterMen w = new WaterMen();
        for (int flow : flows) w.fountain(flow);
        return w;
    }

    /** FOUNTAIN 0 of this FLOW, and JAR 0 so many minutes from it. */
    static WaterMen city(int flow, int floor, int holds, int minutes) {
        WaterMen w = withFountains(flow);
        w.jar(floor, holds, minutes, 0, 0, 0);
        return w;
    }

    /** A city that the FOUNTAIN of 20 stands in, near a great JAR on FLOOR 0, with MEN of these LOADS. */
    static WaterMen cityOfLoads(int minutes, int... loads) {
        WaterMen w = city(20, 0, 200, minutes);
        for (int load : loads) w.man(0, load, 0, 0);
        return w;
    }

    static void duePouring(WaterMen w, String call, int i, int... facts) {
        for (int what = 0; what < facts.length; what++) {
            due(call + " poured(" + i + ", " + what + ")", w.poured(i, what), facts[what]);
        }
    }

    static void dueGiven(WaterMen w, String call, int... jars) {
        for (int man = 0; man < jars.length; man++) due(call + " given(" + man + ")", w.given(man), jars[man]);
    }
}
