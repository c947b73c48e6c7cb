/** The sentences of "Terms" that tell an edge: of the log, ships, storms, compacting, an hour, and all 512 calls. */
public final class TermsTest {
    private TermsTest() {
    }

    public static void main(String[] args) {
        offsetsAreNotGivenTwice();
        theLogBecomesFull();
        theLogIsFull();
        theLogIsFullOverGaps();
        theLogIsFullInAStorm();
        theLogIsFullNoMore();
        aShipHears();
        aLagBeginsAtItsOffset();
        aShipMissesWhatAFullLogDrops();
        aShipMissesWhatTrimmingDrops();
        aShipMissesWhatCompactingDrops();
        aShipMissesWhatAReplayDrops();
        aStormsPhrases();
        oneStormAtATime();
        onlyHearingWaitsForTheEndOfAStorm();
        theLogIsAskedInAStorm();
        shipsAreAskedInAStorm();
        compactingDropsWhatIsBehind();
        compactingDropsZerosAheadOfAllShips();
        compactingDropsZerosAheadOfShipsAtTheEnd();
        compactingDropsZerosWithoutShips();
        compactingDropsTheZeroAndWhatWasBehind();
        compactingDropsOnlyZeros();
        compactingAFullLog();
        anHourInAStorm();
        anHourWithFewerThanThePace();
        anHourOverAGap();
        anHourBehindADropOfAll();
        theLastCalls();
        Check.end();
    }

    private static void offsetsAreNotGivenTwice() {
        ParrotLog log = Logs.saying(3);
        log.trimTo(3);
        Check.due("say() behind a trim of all", log.say(1, 0), 3);
        log.compact();
        Check.due("phrases() behind compacting all", log.phrases(), 0);
        Check.due("say() behind compacting all", log.say(1, 1), 4);
        log.say(2, 0);
        log.compact();
        Check.due("phrases() behind compacting the last one alone", log.phrases(), 1);
        Check.due("say() behind compacting the last one alone", log.say(1, 1), 6);
    }

    /** "It keeps at most 48 phrases": 48 of them. */
    private static void theLogBecomesFull() {
        ParrotLog log = Logs.saying(47);
        log.addShip(1, 0);
        Check.due("48th say()", log.say(7, 48), 47);
        Check.due("48 said: phrases()", log.phrases(), 48);
        Check.due("48 said: dropped()", log.dropped(), 0);
        Check.due("48 said: firstOffset()", log.firstOffset(), 0);
        Check.due("48 said: missedBy(0)", log.missedBy(0), 0);
    }

    /** "Is one said as there are 48, the first one is dropped." */
    private static void theLogIsFull() {
        ParrotLog log = Logs.saying(48);
        Check.due("49th say()", log.say(5, 5), 48);
        Check.due("49 said: phrases()", log.phrases(), 48);
        Check.due("49 said: firstOffset()", log.firstOffset(), 1);
        Check.due("49 said: dropped()", log.dropped(), 1);
        Check.due("49 said: valueAt(1)", log.valueAt(1), 2);
        Check.due("49 said: valueAt(47)", log.valueAt(47), 48);
        Check.due("49 said: valueAt(48)", log.valueAt(48), 5);
        Check.due("50th say()", log.say(5, 6), 49);
        Check.due("50 said: firstOffset()", log.firstOffset(), 2);
        Check.due("50 said: phrases()", log.phrases(), 48);
    }

    private static void theLogIsFullOverGaps() {
        ParrotLog log = new ParrotLog();
        log.say(1, 1);
        log.say(2, 2);
        log.say(2, 3);
        log.compact();
        for (int i = 0; i < 46; i++) {
            log.say(3, i);
        }
        Check.due("48 kept with a gap: phrases()", log.phrases(), 48);
        Check.due("48 kept with a gap: firstOffset()", log.firstOffset(), 0);
        log.say(4, 4);
        Check.due("the first is dropped: firstOffset()", log.firstOffset(), 2);
        log.say(4, 5);
        Check.due("the next is dropped: firstOffset()", log.firstOffset(), 3);
        Check.due("both and the gap: dropped()", log.dropped(), 3);
    }

    private static void theLogIsFullInAStorm() {
        ParrotLog log = Logs.saying(48);
        log.startStorm();
        log.say(1, 1);
        Check.due("full in a storm: phrases()", log.phrases(), 48);
        Check.due("full in a storm: firstOffset()", log.firstOffset(), 1);
        Check.due("full in a storm: keptOf(0)", log.keptOf(0), 1);
    }

    private static void theLogIsFullNoMore() {
        ParrotLog log = Logs.saying(48);
        log.trimTo(1);
        log.say(1, 1);
        Check.due("trimmed by one: phrases()", log.phrases(), 48);
        Check.due("trimmed by one: firstOffset()", log.firstOffset(), 1);
        Check.due("trimmed by one: dropped()", log.dropped(), 1);
    }

    /** "It knows its value of its key then, and the offset of the ship is 1 more than that of the phrase." */
    private static void aShipHears() {
        ParrotLog log = Logs.saying(4);
        log.addShip(1, 0);
        log.trimTo(2);
        log.passHours(1);
        Check.due("knownBy(0, 2) of the heard one", log.knownBy(0, 2), 3);
        Check.due("knownBy(0, 0) of the dropped one", log.knownBy(0, 0), 0);
        Check.due("knownBy(0, 3) of the next one", log.knownBy(0, 3), 0);
        Check.due("offsetOf(0) behind it", log.offsetOf(0), 3);
    }

    /** "How many phrases are kept whose offsets are not less than that of the ship." */
    private static void aLagBeginsAtItsOffset() {
        ParrotLog log = Logs.saying(4);
        log.addShip(1, 3);
        Check.due("lagOf(0) of the one at its offset", log.lagOf(0), 1);
        log.seek(0, 4);
        Check.due("lagOf(0) of none behind its offset", log.lagOf(0), 0);
        log.say(1, 1);
        Check.due("lagOf(0) of the one that is said at its offset", log.lagOf(0), 1);
        log.seek(0, 2);
        Check.due("lagOf(0) from 2", log.lagOf(0), 3);
    }

    /** A phrase is missed "if the offset of the ship is not greater than that of the phrase". */
    private static void aShipMissesWhatAFullLogDrops() {
        ParrotLog log = Logs.saying(49);
        log.addShip(1, 0);
        log.addShip(1, 1);
        log.addShip(1, 2);
        log.say(1, 1);
        dueMissed("full, 1 dropped", log, 1, 1, 0);
        log.say(1, 1);
        dueMissed("full, 1 and 2 dropped", log, 2, 2, 1);
        Check.due("offsetOf(0) of a ship that missed", log.offsetOf(0), 0);
    }

    private static void aShipMissesWhatTrimmingDrops() {
        ParrotLog log = Logs.saying(6);
        log.addShip(1, 2);
        log.addShip(1, 3);
        log.addShip(1, 4);
        log.trimTo(4);
        dueMissed("trimmed to 4", log, 2, 1, 0);
    }

    private static void aShipMissesWhatCompactingDrops() {
        ParrotLog log = new ParrotLog();
        log.say(1, 10);
        log.say(2, 20);
        log.say(1, 11);
        log.say(1, 12);
        log.addShip(1, 0);
        log.addShip(1, 2);
        log.addShip(1, 3);
        log.compact();
        dueMissed("compacted", log, 2, 1, 0);
    }

    private static void aShipMissesWhatAReplayDrops() {
        ParrotLog log = Logs.saying(46);
        log.startStorm();
        log.say(1, 1);
        log.say(1, 2);
        log.endStorm();
        log.addShip(1, 0);
        log.addShip(1, 1);
        log.addShip(1, 2);
        log.replay(0);
        dueMissed("replayed", log, 2, 1, 0);
    }

    private static void dueMissed(String when, ParrotLog log, int... missed) {
        for (int ship = 0; ship < missed.length; ship++) {
            Check.due(when + ": missedBy(" + ship + ")", log.missedBy(ship), missed[ship]);
        }
    }

    /** "Those that are said from its beginning to its end." */
    private static void aStormsPhrases() {
        ParrotLog log = new ParrotLog();
        log.say(1, 1);
        log.startStorm();
        log.say(1, 2);
        log.passHours(2);
        log.say(1, 3);
        log.endStorm();
        log.say(1, 4);
        int[] storms = {-1, 0, 0, -1};
        for (int offset = 0; offset < storms.length; offset++) {
            Check.due("stormAt(" + offset + ")", log.stormAt(offset), storms[offset]);
        }
        Check.due("saidIn(0)", log.saidIn(0), 2);
    }

    private static void oneStormAtATime() {
        ParrotLog log = Logs.fullInAStorm();
        log.endStorm();
        Check.due("isStormy() as the last is over", log.isStormy(), false);
        log.say(1, 1);
        Check.due("stormAt(56) as the last is over", log.stormAt(56), -1);
        Check.due("saidIn(7) as the last is over", log.saidIn(7), 7);
    }

    /** "But not in a storm" is told of hearing alone: all that is done by hand goes on. */
    private static void onlyHearingWaitsForTheEndOfAStorm() {
        ParrotLog log = Logs.mixed();
        log.startStorm();
        Check.due("say() in a storm", log.say(3, 0), 8);
        Check.due("seek() in a storm", log.seek(0, 8), 2);
        Check.due("addShip() in a storm", log.addShip(5, 6), 3);
        Check.due("compact() in a storm", log.compact(), 2);
        Check.due("isKept(2) of the one behind which 6 is", log.isKept(2), false);
        Check.due("isKept(3) of the one behind which 8 is", log.isKept(3), false);
        dueMissed("compacted in a storm", log, 1, 0, 0, 0);
        Check.due("trimTo() in a storm", log.trimTo(7), 2);
        dueMissed("trimmed in a storm", log, 1, 0, 0, 1);
        Check.due("passHours() in a storm", log.passHours(1), 0);
        Check.due("lagOf(3) in a storm", log.lagOf(3), 2);
        Check.due("wouldCompact() in a storm", log.wouldCompact(), 0);
        log.seek(3, 8);
        log.seek(1, 8);
        Check.due("wouldCompact() in a storm as all ships went on", log.wouldCompact(), 1);
        Check.due("endStorm()", log.endStorm(), 1);
        Check.due("passHours() behind it", log.passHours(1), 4);
    }

    private static void theLogIsAskedInAStorm() {
        ParrotLog log = Logs.stormy();
        Check.due("hours() in a storm", log.hours(), 1);
        Check.due("phrases() in a storm", log.phrases(), 7);
        Check.due("nextOffset() in a storm", log.nextOffset(), 10);
        Check.due("firstOffset() in a storm", log.firstOffset(), 2);
        Check.due("dropped() in a storm", log.dropped(), 3);
        Check.due("isKept(9) in a storm", log.isKept(9), true);
        Check.due("keyAt(9) in a storm", log.keyAt(9), 1);
        Check.due("valueAt(5) in a storm", log.valueAt(5), -5);
        Check.due("latestOf(1) in a storm", log.latestOf(1), 9);
        Check.due("valueOf(5) in a storm", log.valueOf(5), 5);
        Check.due("countOf(1) in a storm", log.countOf(1), 2);
        Check.due("wouldCompact() in a storm", log.wouldCompact(), 2);
    }

    private static void shipsAreAskedInAStorm() {
        ParrotLog log = Logs.stormy();
        Check.due("ships() in a storm", log.ships(), 3);
        Check.due("offsetOf(1) in a storm", log.offsetOf(1), 7);
        Check.due("lagOf(1) in a storm", log.lagOf(1), 3);
        Check.due("heardBy(0) in a storm", log.heardBy(0), 2);
        dueMissed("in a storm", log, 1, 0, 0);
        Check.due("knownBy(0, 1) in a storm", log.knownBy(0, 1), 2);
        Check.due("errorsOf(0) in a storm", log.errorsOf(0), 4);
        Check.due("farthestBehind() in a storm", log.farthestBehind(), 0);
        Check.due("wouldMiss(0) in a storm", log.wouldMiss(0), 2);
        Check.dueMean("meanLag() in a storm", log.meanLag(), 4.0);
        log.trimTo(10);
        Check.due("farthestBehind() in a storm without a lag", log.farthestBehind(), 0);
    }

    private static void compactingDropsWhatIsBehind() {
        ParrotLog log = new ParrotLog();
        log.say(0, 1);
        log.say(0, 0);
        log.say(0, 2);
        log.say(9, 3);
        log.say(9, 3);
        log.addShip(1, 0);
        Check.due("compact() of what is behind, heard or not", log.compact(), 3);
        Check.due("latestOf(0) stays", log.latestOf(0), 2);
        Check.due("latestOf(9) stays", log.latestOf(9), 4);
    }

    /** "Its offset is less than those of all ships": of two ships either may be the one that still needs it. */
    private static void compactingDropsZerosAheadOfAllShips() {
        ParrotLog log = new ParrotLog();
        log.say(1, 5);
        log.say(1, 0);
        log.say(2, 0);
        log.say(3, 0);
        log.say(4, 7);
        log.addShip(1, 2);
        log.addShip(1, 3);
        Check.due("compact() with ships at 2 and 3", log.compact(), 2);
        Check.due("the zero at a ship's offset stays", log.isKept(2), true);
        log.seek(0, 4);
        Check.due("compact() with ships at 4 and 3", log.compact(), 1);
        Check.due("the zero at the other ship's offset stays", log.isKept(3), true);
        log.seek(0, 3);
        log.seek(1, 4);
        Check.due("compact() with ships at 3 and 4", log.compact(), 0);
        log.seek(0, 4);
        Check.due("compact() with both ships at 4", log.compact(), 1);
    }

    private static void compactingDropsZerosAheadOfShipsAtTheEnd() {
        ParrotLog log = new ParrotLog();
        log.say(1, 1);
        log.say(2, 0);
        log.addShip(1, 2);
        Check.due("compact() of the last one with a ship at the end", log.compact(), 1);
        Check.due("firstOffset() behind it", log.firstOffset(), 0);
        Check.due("latestOf(2) behind it", log.latestOf(2), -1);
    }

    /** "Also if there is no ship." */
    private static void compactingDropsZerosWithoutShips() {
        ParrotLog log = new ParrotLog();
        log.say(1, 0);
        log.say(2, 1);
        log.say(3, 0);
        Check.due("compact() without ships", log.compact(), 2);
        Check.due("only what is not 0 is kept", log.firstOffset(), 1);
        Check.due("phrases() without ships", log.phrases(), 1);
    }

    /** "Then": the zero is dropped behind those that it was another one with the same key for. */
    private static void compactingDropsTheZeroAndWhatWasBehind() {
        ParrotLog log = new ParrotLog();
        log.say(1, 5);
        log.say(1, 0);
        Check.due("compact() of a 5 and a zero", log.compact(), 2);
        Check.due("latestOf(1) behind it", log.latestOf(1), -1);
        ParrotLog needed = new ParrotLog();
        needed.say(1, 5);
        needed.say(1, 0);
        needed.addShip(1, 0);
        Check.due("compact() of a 5 and a zero that a ship needs", needed.compact(), 1);
        Check.due("latestOf(1) of the zero that a ship needs", needed.latestOf(1), 1);
    }

    private static void compactingDropsOnlyZeros() {
        ParrotLog log = new ParrotLog();
        log.say(1, 1);
        log.say(2, -1);
        log.say(3, 0);
        Check.due("compact() of 1, -1 and 0", log.compact(), 1);
        Check.due("isKept(0) of 1", log.isKept(0), true);
        Check.due("isKept(1) of -1", log.isKept(1), true);
    }

    private static void compactingAFullLog() {
        ParrotLog log = Logs.saying(48);
        Check.due("compact() of 48 with 10 keys", log.compact(), 38);
        Check.due("firstOffset() of the last of each key", log.firstOffset(), 38);
        ParrotLog same = new ParrotLog();
        for (int i = 0; i < 48; i++) {
            same.say(6, 0);
        }
        Check.due("compact() of 48 zeros", same.compact(), 48);
        Check.due("phrases() of 48 zeros", same.phrases(), 0);
    }

    /** "If no storm is on" it is heard; the hour is 1 greater all the same. */
    private static void anHourInAStorm() {
        ParrotLog log = Logs.saying(10);
        log.addShip(5, 0);
        log.startStorm();
        Check.due("passHours(60) in a storm", log.passHours(60), 0);
        Check.due("hours() in a storm", log.hours(), 60);
        Check.due("offsetOf(0) in a storm", log.offsetOf(0), 0);
        Check.due("heardBy(0) in a storm", log.heardBy(0), 0);
        Check.due("knownBy(0, 0) in a storm", log.knownBy(0, 0), 0);
        log.endStorm();
        Check.due("passHours(1) behind it", log.passHours(1), 5);
        Check.due("hours() behind it", log.hours(), 61);
    }

    /** "Or fewer, if there are not so many." */
    private static void anHourWithFewerThanThePace() {
        ParrotLog log = Logs.saying(9);
        log.addShip(5, 0);
        Check.due("passHours(2) of 9 with the pace 5", log.passHours(2), 9);
        Check.due("offsetOf(0) at the end", log.offsetOf(0), 9);
        Check.due("passHours(1) of none", log.passHours(1), 0);
        Check.due("offsetOf(0) stays at the end", log.offsetOf(0), 9);
    }

    /** "The kept one with the smallest offset that is not less than that of the ship." */
    private static void anHourOverAGap() {
        ParrotLog log = new ParrotLog();
        log.say(1, 1);
        log.say(2, 2);
        log.say(2, 3);
        log.say(2, 4);
        log.say(3, 5);
        log.compact();
        log.addShip(2, 0);
        Check.due("passHours(1) over a gap", log.passHours(1), 2);
        Check.due("offsetOf(0) behind the gap", log.offsetOf(0), 4);
        Check.due("knownBy(0, 2) behind the gap", log.knownBy(0, 2), 4);
        Check.due("passHours(1) of the one at its offset", log.passHours(1), 1);
        Check.due("knownBy(0, 3)", log.knownBy(0, 3), 5);
    }

    private static void anHourBehindADropOfAll() {
        ParrotLog log = Logs.saying(3);
        log.addShip(2, 1);
        log.trimTo(3);
        Check.due("passHours(1) of what is all dropped", log.passHours(1), 0);
        Check.due("offsetOf(0) stays", log.offsetOf(0), 1);
        log.say(1, 8);
        Check.due("passHours(1) of the next one", log.passHours(1), 1);
        Check.due("offsetOf(0) behind the next one", log.offsetOf(0), 4);
    }

    /** "An object is used for at most 512 calls": the last of so many answers as well, with the greatest numbers. */
    private static void theLastCalls() {
        ParrotLog said = new ParrotLog();
        said.addShip(5, 0);
        for (int i = 0; i < 509; i++) {
            Check.due("say() of many", said.say(i % 10, i), i);
        }
        Check.due("511th call: dropped()", said.dropped(), 461);
        Check.due("512th call: missedBy(0)", said.missedBy(0), 461);
        ParrotLog old = new ParrotLog();
        for (int i = 0; i < 511; i++) {
            old.passHours(60);
        }
        Check.due("512th call: hours()", old.hours(), 30660);
        ParrotLog heard = Logs.saying(48);
        heard.addShip(5, 0);
        for (int i = 0; i < 231; i++) {
            Check.due("passHours(10) of many", heard.passHours(10), 48);
            heard.seek(0, 0);
        }
        Check.due("512th call: heardBy(0)", heard.heardBy(0), 11088);
        ParrotLog replayed = eightReplaysOf48();
        Check.due("409th call: nextOffset()", replayed.nextOffset(), 768);
        for (int i = 0; i < 101; i++) {
            replayed.say(1, 1);
        }
        Check.due("511th call: nextOffset()", replayed.nextOffset(), 869);
        Check.due("512th call: dropped()", replayed.dropped(), 821);
    }

    private static ParrotLog eightReplaysOf48() {
        ParrotLog log = new ParrotLog();
        for (int storm = 0; storm < 8; storm++) {
            log.startStorm();
            for (int i = 0; i < 48; i++) {
                log.say(i % 10, i);
            }
            log.endStorm();
            Check.due("replay() of 48", log.replay(storm), 48);
        }
        return log;
    }
}
