import java.io.IOException;
import java.nio.file.Files;
import java.nio.file.Path;
import java.util.ArrayList;
import java.util.List;

/**
 * Each sentence of the document that names a boundary case has a test of its own here, under the
 * words of the document and the number of the promise that leans on them. The words are looked up
 * in ../shared/DOC.md, and words there that no test bears are a fault too.
 */
public final class SentenceTest {
    private static final int NONE = CheckRestart.NONE;
    private static final int MIN = Integer.MIN_VALUE;
    private static final int MAX = Integer.MAX_VALUE;
    private static final Path DOCUMENT = Path.of("../shared/DOC.md");

    private record Sentence(int promise, String words, Runnable test) { }

    private static final Sentence[] SENTENCES = {
        // What it is
        new Sentence(1, "An object is used for at most 512 calls after it has been made", SentenceTest::all512Calls),

        // Terms
        new Sentence(2, "CELLS 0 .. (at most 12)", SentenceTest::cellNumbers),
        new Sentence(8, "hold numbers of 64 bits, which go round", SentenceTest::cellsGoRound),
        new Sentence(3, "FILES 0 .. (at most 6)", SentenceTest::fileNumbers),
        new Sentence(3, "have a length, 0 .. 2000 records", SentenceTest::shortestAndLongestFile),
        new Sentence(9, "and a POSITION (how many of them were read)", SentenceTest::positionCountsReads),
        new Sentence(4, "Record r (from 0 on) of file f is 1000 * (f + 1) + r", SentenceTest::firstAndLastRecords),
        new Sentence(4, "The program works UNIT by unit, counted from 1 on", SentenceTest::unitsFromOneOn),
        new Sentence(4, "unit u looks at file (u - 1) modulo how many there are", SentenceTest::filesInTurn),
        new Sentence(4, "if a record is left there, it is read", SentenceTest::lastRecordIsRead),
        new Sentence(4, "and cell (u - 1) modulo how many there are gets u times it more", SentenceTest::cellsInTurn),
        new Sentence(12, "then (whether one was read or not) a ROW of OUTPUT is written: that cell",
                SentenceTest::rowEvenIfNoneWasRead),
        new Sentence(16, "It is ENDED when no file has a record left", SentenceTest::endedAtTheLastRecord),
        new Sentence(16, "(so too without files)", SentenceTest::endedWithoutFiles),
        new Sentence(4, "then there are no more units", SentenceTest::noUnitsBehindTheEnd),
        new Sentence(4, "Without cells a unit does nothing but read, its row is 0", SentenceTest::unitsWithoutCells),
        new Sentence(2, "Cells and files can be told only ahead of the first unit", SentenceTest::cellsAheadOfUnits),
        new Sentence(3, "Cells and files can be told only ahead of the first unit", SentenceTest::filesAheadOfUnits),
        new Sentence(5, "A CHECKPOINT has the PARTS: a mark, each cell, each file's position, the number of units,"
                + " the edition (told in this order), an end", SentenceTest::howManyParts),
        new Sentence(13, "It is WHOLE when its end is written, else TORN", SentenceTest::wholeWithItsEndAlone),
        new Sentence(5, "Checkpoints are numbered from 1 on, as they were begun", SentenceTest::tornOnesHaveNumbers),
        new Sentence(5, "at most 100", SentenceTest::tornOnesAreAmongTheHundred),
        new Sentence(6, "A CUT comes ahead of a part of the next checkpoint, or at once: the program is DOWN",
                SentenceTest::cutsLeadDown),
        new Sentence(6, "all but edition(), grow(), cut(), restart() and what only asks is refused then (-5)",
                SentenceTest::whatIsRefusedWhenDown),

        new Sentence(1, "No cells, files, checkpoints", SentenceTest::newIsEmpty),
        new Sentence(1, "edition 0", SentenceTest::newEdition),
        new Sentence(1, "not down", SentenceTest::newIsNotDown),

        new Sentence(2, "A new cell that holds v at first: its number", SentenceTest::cellHoldsAnyNumber),
        new Sentence(2, "NONE when there are 12", SentenceTest::thirteenthCell),
        new Sentence(2, "-5 when a unit was done", SentenceTest::cellBehindAUnit),
        new Sentence(2, "or it is down", SentenceTest::cellWhenDown),
        new Sentence(2, "the first of -5, NONE", SentenceTest::cellOrder),

        new Sentence(3, "A new file: its number", SentenceTest::fileStartsUnread),
        new Sentence(3, "-4 when length is not so", SentenceTest::fileLengthNotSo),
        new Sentence(3, "NONE when there are 6", SentenceTest::seventhFile),
        new Sentence(3, "-5 as above", SentenceTest::fileRefused),
        new Sentence(3, "the first of -4, -5, NONE", SentenceTest::fileOrder),

        new Sentence(4, "At most n more units: how many were done", SentenceTest::atMostN),
        new Sentence(4, "-4 when n is not 0 .. 1000", SentenceTest::stepNotSo),
        new Sentence(4, "-5.", SentenceTest::stepWhenDown),
        new Sentence(4, "(Units are at most 5000 in all: then it does none.)", SentenceTest::fiveThousandUnits),
        new Sentence(4, "(Units are at most 5000 in all: then it does none.)", SentenceTest::unitsTakenBackMakeRoom),

        new Sentence(5, "A checkpoint is written: its number", SentenceTest::checkOfEmptyAndFull),
        new Sentence(5, "-5 when it is down", SentenceTest::checkWhenDown),
        new Sentence(5, "NONE when there are 100", SentenceTest::hundredAndFirst),
        new Sentence(5, "NONE when there are 100", SentenceTest::noCutComesWhenFull),
        new Sentence(5, "0 when it was cut: it is torn then, and the program down", SentenceTest::checkThatWasCut),
        new Sentence(5, "(ahead of part 1: it was not begun)", SentenceTest::cutAheadOfPart1),

        new Sentence(6, "write = 0: it is down at once", SentenceTest::cutAtOnce),
        new Sentence(6, "n = 1 .. 30: the next checkpoint with n parts or more is cut ahead of its n-th one",
                SentenceTest::cutWaitsForEnoughParts),
        new Sentence(6, "n = 1 .. 30: the next checkpoint with n parts or more is cut ahead of its n-th one",
                SentenceTest::cutComesOnce),
        new Sentence(6, "what was told before is forgotten: 1", SentenceTest::cutToldAgain),
        new Sentence(6, "what was told before is forgotten: 1", SentenceTest::cutAtOnceForgets),
        new Sentence(6, "-4.", SentenceTest::cutNotSo),

        new Sentence(7, "When it is down: it goes on at a checkpoint", SentenceTest::restartGoesOn),
        new Sentence(7, "or, if that is torn, at the latest whole one before: its number",
                SentenceTest::restartAtTheLatestWholeBefore),
        new Sentence(7, "-5 when it is not down", SentenceTest::restartNotDown),
        new Sentence(7, "-1 when there is no such checkpoint", SentenceTest::restartNoneSuch),
        new Sentence(7, "or no whole one", SentenceTest::restartNoWholeOne),
        new Sentence(7, "-3 when its edition is not the one now", SentenceTest::restartOtherEdition),
        new Sentence(7, "-2 when a file is shorter than its position there", SentenceTest::restartShorterFile),
        new Sentence(7, "the first of these", SentenceTest::restartOrder),
        new Sentence(7, "Cells, positions, units are as they were there", SentenceTest::restartPutsBack),
        new Sentence(7, "(cells and files told behind it as at first)", SentenceTest::toldBehindAsAtFirst),
        new Sentence(7, "rows behind are gone", SentenceTest::rowsBehindAreGone),
        new Sentence(7, "so are checkpoints behind", SentenceTest::checkpointsBehindAreGone),
        new Sentence(7, "(their numbers are used again)", SentenceTest::numbersUsedAgain),

        new Sentence(8, "A cell", SentenceTest::firstAndLastCell),
        new Sentence(8, "IllegalArgumentException when there is none such", SentenceTest::noSuchCell),
        new Sentence(8, "(While it is down: as it was when it went down.)", SentenceTest::cellWhileDown),

        new Sentence(9, "A file's position", SentenceTest::firstAndLastFile),
        new Sentence(9, "NONE when there is none such", SentenceTest::noSuchFile),

        new Sentence(10, "A file's length becomes n more (or less): the length", SentenceTest::growMoreAndLess),
        new Sentence(10, "NONE when there is none such", SentenceTest::growNoSuchFile),
        new Sentence(10, "-4, changing nothing, when that would not be 0 .. 2000", SentenceTest::growNotSo),
        new Sentence(10, "(It may be less than its position; no record is left then.)",
                SentenceTest::growBelowThePosition),

        new Sentence(11, "The program's edition becomes e: what it was", SentenceTest::editions),

        new Sentence(12, "The lowest 32 bits of the i-th row of output, from 0 on", SentenceTest::lowestBits),
        new Sentence(12, "0 when there is none", SentenceTest::outputNone),

        new Sentence(13, "Whether a checkpoint is torn: 1, 0", SentenceTest::tornOrWhole),
        new Sentence(13, "NONE when there is none such", SentenceTest::tornNoneSuch),

        new Sentence(14, "The highest 32 bits of the i-th row", SentenceTest::highestBits),
        new Sentence(14, "ArrayIndexOutOfBoundsException when there is none such", SentenceTest::noSuchRow),

        new Sentence(15, "Whether cells and rows are those", SentenceTest::rowsCountBesideCells),
        new Sentence(15, "of as many units from the beginning", SentenceTest::asManyUnits),
        new Sentence(15, "of as many units from the beginning", SentenceTest::asManyUnitsCannotBeHad),
        new Sentence(15, "without a cut", SentenceTest::equalAfterACutAtEachPart),
        new Sentence(15, "with the files as long as they are now", SentenceTest::equalByLengthsNow),

        new Sentence(16, "what = 0 cells, 1 files, 2 units, 3 checkpoints", SentenceTest::countsFromEmptyToFull),
        new Sentence(16, "4 whether it is down", SentenceTest::countDown),
        new Sentence(16, "5 whether it is ended", SentenceTest::countEnded),
        new Sentence(16, "6 cuts that came", SentenceTest::countCuts),
        new Sentence(16, "NONE for others", SentenceTest::countOthers),
    };

    private static String now = "";
    private static int asked = 0;
    private static int wrong = 0;

    public static void main(String[] args) throws IOException {
        for (Sentence s : SENTENCES) {
            runOne(s);
        }
        lookUpInDocument(Files.readString(DOCUMENT));
        System.out.println(SENTENCES.length + " tests of sentences, " + asked + " answers asked, " + wrong + " wrong");
        if (wrong != 0) {
            System.exit(1);
        }
    }

    private static void runOne(Sentence s) {
        now = "promise " + s.promise() + ", \"" + s.words() + "\"";
        int before = asked;
        try {
            s.test().run();
        } catch (RuntimeException e) {
            fault(Run.last + " threw " + e);
        }
        if (asked == before) {
            fault("nothing was asked");
        }
    }

    private static void fault(String what) {
        wrong++;
        System.out.println(now + ": " + what);
    }

    private static void due(long got, long want) {
        asked++;
        if (got != want) {
            fault(Run.last + " answered " + got + ", due is " + want);
        }
    }

    private static void due(boolean got, boolean want) {
        due(got ? 1 : 0, want ? 1 : 0);
    }

    private static void dueNoCell(Run x, int cell) {
        Class<?> thrown = null;
        try {
            x.get(cell);
        } catch (RuntimeException e) {
            thrown = e.getClass();
        }
        dueThrown(thrown, IllegalArgumentException.class);
    }

    private static void dueNoRow(Run x, int i) {
        Class<?> thrown = null;
        try {
            x.row(i);
        } catch (RuntimeException e) {
            thrown = e.getClass();
        }
        dueThrown(thrown, ArrayIndexOutOfBoundsException.class);
    }

    private static void dueThrown(Class<?> thrown, Class<?> want) {
        asked++;
        if (thrown != want) {
            fault(Run.last + " threw " + thrown + ", due is " + want);
        }
    }

    private static void dueSame(Run x, String before) {
        String call = Run.last;
        String after = x.seen();
        asked++;
        if (!after.equals(before)) {
            fault(call + " changed " + before + " to " + after);
        }
    }

    /** An object that counts its calls, since nothing is promised behind the 512th. */
    private static final class Run {
        static String last = "";
        private final CheckRestart x = new CheckRestart();
        private int calls = 0;

        private CheckRestart call(String name) {
            last = name;
            calls++;
            if (calls > 512) {
                throw new IllegalStateException("the test makes more than 512 calls");
            }
            return x;
        }

        int cell(long v) { return call("cell(" + v + ")").cell(v); }
        int file(int length) { return call("file(" + length + ")").file(length); }
        int step(int n) { return call("step(" + n + ")").step(n); }
        int check() { return call("check()").check(); }
        int cut(int write) { return call("cut(" + write + ")").cut(write); }
        int restart(int check) { return call("restart(" + check + ")").restart(check); }
        long get(int cell) { return call("get(" + cell + ")").get(cell); }
        int position(int file) { return call("position(" + file + ")").position(file); }
        int grow(int file, int n) { return call("grow(" + file + ", " + n + ")").grow(file, n); }
        int edition(int e) { return call("edition(" + e + ")").edition(e); }
        int output(int i) { return call("output(" + i + ")").output(i); }
        int torn(int check) { return call("torn(" + check + ")").torn(check); }
        int row(int i) { return call("row(" + i + ")").row(i); }
        boolean equal() { return call("equal()").equal(); }
        int count(int what) { return call("count(" + what + ")").count(what); }

        /** A row of output, both halves together. */
        long whole(int i) {
            return ((long) row(i) << 32) | (output(i) & 0xffffffffL);
        }

        /** All that can be asked without changing anything: of long rows of things the last few. */
        String seen() {
            StringBuilder s = new StringBuilder();
            for (int what = 0; what <= 6; what++) s.append(count(what)).append(' ');
            for (int c = 0; c < count(0); c++) s.append("c").append(get(c)).append(' ');
            for (int f = 0; f < count(1); f++) s.append("f").append(position(f)).append('/').append(grow(f, 0)).append(' ');
            for (int i = Math.max(0, count(2) - 4); i < count(2) + 1; i++) s.append("o").append(output(i)).append(' ');
            for (int k = Math.max(0, count(3) - 4); k < count(3) + 2; k++) s.append("t").append(torn(k)).append(' ');
            int e = edition(0);
            edition(e);
            return s.append("e").append(e).append(equal() ? " equal" : " not equal").toString();
        }
    }

    private static Run with(int cells, int... lengths) {
        Run x = new Run();
        for (int i = 0; i < cells; i++) {
            x.cell(0);
        }
        for (int length : lengths) {
            x.file(length);
        }
        return x;
    }

    private static Run full() {
        return with(12, 2000, 2000, 2000, 2000, 2000, 2000);
    }

    /** One checkpoint ahead of the first unit, then two units, then down. */
    private static Run downBehindTwoUnits() {
        Run x = with(1, 5);
        x.check();
        x.step(2);
        x.cut(0);
        return x;
    }

    // What it is

    private static void all512Calls() {
        Run x = with(1, 2000);
        for (int i = 0; i < 254; i++) {
            due(x.step(1), 1);
            due(x.equal(), true);
        }
        due(x.count(2), 254);
        due(x.position(0), 254);
        due(x.calls, 512);
    }

    // Terms: cells and files

    private static void cellNumbers() {
        Run x = new Run();
        for (int i = 0; i < 12; i++) {
            due(x.count(0), i);
            due(x.cell(100 + i), i);
        }
        for (int i = 0; i < 12; i++) {
            due(x.get(i), 100 + i);
        }
        due(x.cell(1), NONE);
        dueNoCell(x, 12);
    }

    private static void cellsGoRound() {
        Run x = new Run();
        x.cell(Long.MAX_VALUE);
        x.cell(Long.MAX_VALUE - 2 * 1001);
        x.cell(-1);
        x.cell(0xffffffffL);
        x.cell(Long.MIN_VALUE);
        x.file(5);
        x.step(5);
        due(x.get(0), Long.MIN_VALUE + 999);
        due(x.whole(0), Long.MIN_VALUE + 999);
        due(x.get(1), Long.MAX_VALUE);
        due(x.whole(1), Long.MAX_VALUE);
        due(x.get(2), 3 * 1002 - 1);
        due(x.get(3), 0xffffffffL + 4 * 1003);
        due(x.whole(3), 0xffffffffL + 4 * 1003);
        due(x.get(4), Long.MIN_VALUE + 5 * 1004);
        due(x.equal(), true);
    }

    private static void fileNumbers() {
        Run x = new Run();
        for (int i = 0; i < 6; i++) {
            due(x.count(1), i);
            due(x.file(10 + i), i);
        }
        for (int i = 0; i < 6; i++) {
            due(x.grow(i, 0), 10 + i);
        }
        due(x.file(1), NONE);
        due(x.position(6), NONE);
    }

    private static void shortestAndLongestFile() {
        Run shortest = new Run();
        due(shortest.file(0), 0);
        due(shortest.grow(0, 0), 0);
        due(shortest.step(1), 0);
        Run longest = new Run();
        due(longest.file(2000), 0);
        due(longest.grow(0, 0), 2000);
        due(longest.step(1000), 1000);
        due(longest.step(1000), 1000);
        due(longest.step(1), 0);
        due(longest.position(0), 2000);
        due(new Run().file(-1), -4);
        due(new Run().file(2001), -4);
    }

    private static void positionCountsReads() {
        Run x = with(1, 1, 3);
        due(x.position(0), 0);
        due(x.position(1), 0);
        int[][] positions = {{1, 0}, {1, 1}, {1, 1}, {1, 2}, {1, 2}, {1, 3}};
        for (int[] p : positions) {
            due(x.step(1), 1);
            due(x.position(0), p[0]);
            due(x.position(1), p[1]);
        }
        x.step(1);
        due(x.position(1), 3);
    }

    private static void firstAndLastRecords() {
        Run x = with(1, 2000);
        x.step(1);
        due(x.get(0), 1000);
        x.step(1000);
        x.step(998);
        long before = x.get(0);
        due(x.step(2), 1);
        due(x.get(0) - before, 2000 * 2999);

        Run six = with(6, 2000, 2000, 2000, 2000, 2000, 2000);
        six.step(6);
        for (int f = 0; f < 6; f++) {
            due(six.get(f), (f + 1) * 1000L * (f + 1));
        }
        for (int i = 0; i < 4; i++) {
            six.step(1000);
        }
        six.step(991);
        due(six.count(2), 4997);
        long ahead = six.get(5);
        six.step(1);
        due(six.get(5) - ahead, 4998L * (6000 + 832));
    }

    // Terms: units

    private static void unitsFromOneOn() {
        Run x = with(1, 3);
        due(x.count(2), 0);
        x.step(1);
        due(x.count(2), 1);
        due(x.get(0), 1 * 1000);
        x.step(1);
        due(x.count(2), 2);
        due(x.get(0), 1 * 1000 + 2 * 1001);
    }

    private static void filesInTurn() {
        for (int files = 1; files <= 6; files++) {
            Run x = new Run();
            for (int f = 0; f < files; f++) {
                x.file(9);
            }
            for (int u = 1; u <= 2 * files + 1; u++) {
                int f = (u - 1) % files;
                int before = x.position(f);
                x.step(1);
                due(x.position(f), before + 1);
            }
            due(x.position(0), 3);
            due(x.position(files - 1), files == 1 ? 3 : 2);
        }
    }

    private static void lastRecordIsRead() {
        Run x = with(2, 1, 2);
        x.step(1);
        due(x.position(0), 1);
        due(x.get(0), 1000);
        x.step(3);
        due(x.position(1), 2);
        due(x.get(1), 2 * 2000 + 4 * 2001);
        // Unit 3 looked at file 0, where none was left.
        due(x.position(0), 1);
        due(x.get(0), 1000);
    }

    private static void cellsInTurn() {
        for (int cells = 1; cells <= 12; cells++) {
            Run x = with(cells, 50, 50);
            for (int u = 1; u <= 2 * cells + 1; u++) {
                int c = (u - 1) % cells;
                int f = (u - 1) % 2;
                int r = (u - 1) / 2;
                long before = x.get(c);
                x.step(1);
                due(x.get(c) - before, (long) u * (1000 * (f + 1) + r));
            }
        }
        Run twelve = with(12, 50);
        twelve.step(12);
        long eleventh = twelve.get(11);
        due(eleventh, 12 * 1011);
        twelve.step(1);
        due(twelve.get(0), 1000 + 13 * 1012);
        due(twelve.get(11), eleventh);
    }

    private static void rowEvenIfNoneWasRead() {
        Run x = new Run();
        x.cell(7);
        x.cell(8);
        x.cell(9);
        x.file(0);
        x.file(2);
        due(x.step(100), 4);
        due(x.whole(0), 7);
        due(x.whole(1), 8 + 2 * 2000);
        due(x.whole(2), 9);
        due(x.whole(3), 7 + 4 * 2001);
        dueNoRow(x, 4);
    }

    private static void endedAtTheLastRecord() {
        Run empty = with(1, 0, 0, 0);
        due(empty.count(5), 1);
        Run last = with(1, 0, 0, 0, 0, 0, 1);
        due(last.count(5), 0);
        due(last.step(5), 5);
        due(last.count(5), 0);
        due(last.step(1), 1);
        due(last.count(5), 1);
        last.grow(0, 1);
        due(last.count(5), 0);
        Run first = with(1, 2, 1);
        first.step(2);
        due(first.count(5), 0);
        first.step(1);
        due(first.count(5), 1);
    }

    private static void endedWithoutFiles() {
        Run x = new Run();
        due(x.count(5), 1);
        due(x.step(1000), 0);
        x.cell(1);
        due(x.count(5), 1);
        due(x.step(1), 0);
        due(x.count(2), 0);
        x.file(1);
        due(x.count(5), 0);
        due(x.step(1), 1);
    }

    private static void noUnitsBehindTheEnd() {
        Run x = with(2, 2, 1);
        due(x.step(1000), 3);
        String before = x.seen();
        due(x.step(1), 0);
        dueSame(x, before);
        due(x.step(1000), 0);
        dueSame(x, before);
        dueNoRow(x, 3);
    }

    private static void unitsWithoutCells() {
        Run x = with(0, 2, 0);
        due(x.step(10), 3);
        due(x.position(0), 2);
        due(x.position(1), 0);
        for (int i = 0; i < 3; i++) {
            due(x.whole(i), 0);
        }
        dueNoRow(x, 3);
        dueNoCell(x, 0);
        due(x.count(2), 3);
        due(x.equal(), true);
        x.check();
        x.cut(0);
        due(x.restart(1), 1);
        due(x.position(0), 2);
    }

    private static void cellsAheadOfUnits() {
        Run x = with(0, 3);
        x.step(0);
        due(x.cell(1), 0);
        x.check();
        due(x.cell(2), 1);
        x.step(1);
        due(x.cell(3), -5);
        due(x.count(0), 2);
    }

    private static void filesAheadOfUnits() {
        Run x = with(1);
        due(x.step(5), 0);
        due(x.file(3), 0);
        x.step(0);
        due(x.file(3), 1);
        x.check();
        due(x.file(3), 2);
        x.step(1);
        due(x.file(3), -5);
        due(x.count(1), 3);
    }

    // Terms: checkpoints and cuts

    private static void howManyParts() {
        for (int cells = 0; cells <= 12; cells += 6) {
            for (int files = 0; files <= 6; files += 3) {
                int parts = 1 + cells + files + 1 + 1 + 1;
                Run last = with(cells, new int[files]);
                last.cut(parts);
                due(last.check(), 0);
                due(last.torn(1), 1);
                Run behind = with(cells, new int[files]);
                behind.cut(parts + 1);
                due(behind.check(), 1);
                due(behind.torn(1), 0);
            }
        }
    }

    private static void wholeWithItsEndAlone() {
        int parts = 4 + 1 + 1;
        for (int n = 2; n <= parts; n++) {
            Run x = with(1, 1);
            x.cut(n);
            x.check();
            due(x.torn(1), 1);
            due(x.restart(1), -1);
        }
        Run x = with(1, 1);
        x.check();
        due(x.torn(1), 0);
        x.cut(0);
        due(x.torn(1), 0);
        due(x.restart(1), 1);
    }

    private static void tornOnesHaveNumbers() {
        Run x = with(1, 5);
        due(x.check(), 1);
        x.cut(2);
        due(x.check(), 0);
        due(x.count(3), 2);
        due(x.torn(1), 0);
        due(x.torn(2), 1);
        due(x.restart(2), 1);
        due(x.check(), 2);
        due(x.check(), 3);
        due(x.count(3), 3);
    }

    private static void tornOnesAreAmongTheHundred() {
        Run x = with(1, 5);
        for (int k = 1; k <= 99; k++) {
            due(x.check(), k);
        }
        x.cut(2);
        due(x.check(), 0);
        due(x.count(3), 100);
        due(x.torn(100), 1);
        due(x.torn(101), NONE);
        due(x.restart(100), 99);
        due(x.check(), 100);
        due(x.check(), NONE);
        due(x.count(3), 100);
    }

    private static void cutsLeadDown() {
        Run part = with(1, 3);
        part.cut(3);
        due(part.count(4), 0);
        part.step(1);
        due(part.count(4), 0);
        part.check();
        due(part.count(4), 1);
        Run once = with(1, 3);
        once.cut(0);
        due(once.count(4), 1);
    }

    private static void whatIsRefusedWhenDown() {
        Run x = downBehindTwoUnits();
        String before = x.seen();
        due(x.cell(1), -5);
        dueSame(x, before);
        due(x.file(1), -5);
        dueSame(x, before);
        due(x.step(1), -5);
        dueSame(x, before);
        due(x.check(), -5);
        dueSame(x, before);

        due(x.get(0), 1000 + 2 * 1001);
        due(x.position(0), 2);
        due(x.output(1), 1000 + 2 * 1001);
        due(x.row(1), 0);
        due(x.torn(1), 0);
        due(x.equal(), true);
        due(x.count(4), 1);
        due(x.edition(4), 0);
        due(x.edition(0), 4);
        due(x.grow(0, 1), 6);
        due(x.cut(3), 1);
        due(x.restart(1), 1);

        Run fresh = new Run();
        fresh.cut(0);
        due(fresh.cell(1), -5);
        due(fresh.file(0), -5);
        due(fresh.step(0), -5);
        due(fresh.check(), -5);
    }

    // Promise 1

    private static void newIsEmpty() {
        Run x = new Run();
        due(x.count(0), 0);
        due(x.count(1), 0);
        due(x.count(2), 0);
        due(x.count(3), 0);
        due(x.count(6), 0);
        dueNoCell(x, 0);
        due(x.position(0), NONE);
        due(x.torn(1), NONE);
        due(x.output(0), 0);
        dueNoRow(x, 0);
        due(x.equal(), true);
        // Objects share nothing: another one's things do not show in a new one.
        full().step(9);
        due(new Run().count(0), 0);
    }

    private static void newEdition() {
        due(new Run().edition(1), 0);
        Run x = new Run();
        x.check();
        x.cut(0);
        x.edition(1);
        due(x.restart(1), -3);
        x.edition(0);
        due(x.restart(1), 1);
    }

    private static void newIsNotDown() {
        Run x = new Run();
        due(x.count(4), 0);
        due(x.restart(1), -5);
        due(x.cell(1), 0);
        due(x.file(1), 0);
        due(x.step(1), 1);
        due(x.check(), 1);
    }

    // Promise 2

    private static void cellHoldsAnyNumber() {
        long[] values = {0, 1, -1, Long.MAX_VALUE, Long.MIN_VALUE, MAX + 1L, MIN - 1L};
        Run x = new Run();
        for (int i = 0; i < values.length; i++) {
            due(x.cell(values[i]), i);
            due(x.get(i), values[i]);
        }
        for (int i = 0; i < values.length; i++) {
            due(x.get(i), values[i]);
        }
    }

    private static void thirteenthCell() {
        Run x = with(11);
        due(x.cell(5), 11);
        String before = x.seen();
        due(x.cell(6), NONE);
        dueSame(x, before);
        due(x.cell(6), NONE);
        due(x.get(11), 5);
    }

    private static void cellBehindAUnit() {
        Run x = with(1, 2);
        x.step(1);
        String before = x.seen();
        due(x.cell(6), -5);
        dueSame(x, before);
        x.step(1);
        due(x.count(5), 1);
        due(x.cell(6), -5);
        // Taken back to where no unit was done, the first unit is ahead again.
        Run back = downBehindTwoUnits();
        back.restart(1);
        due(back.cell(6), 1);
    }

    private static void cellWhenDown() {
        Run x = with(1, 2);
        x.check();
        x.cut(0);
        String before = x.seen();
        due(x.cell(6), -5);
        dueSame(x, before);
        x.restart(1);
        due(x.cell(6), 1);
    }

    private static void cellOrder() {
        Run unit = full();
        unit.step(1);
        due(unit.cell(1), -5);
        Run down = full();
        due(down.cell(1), NONE);
        down.cut(0);
        due(down.cell(1), -5);
    }

    // Promise 3

    private static void fileStartsUnread() {
        Run x = new Run();
        due(x.file(2000), 0);
        due(x.file(0), 1);
        due(x.file(1), 2);
        due(x.position(0), 0);
        due(x.position(1), 0);
        due(x.grow(0, 0), 2000);
        due(x.grow(1, 0), 0);
        due(x.grow(2, 0), 1);
    }

    private static void fileLengthNotSo() {
        Run x = with(1, 3);
        String before = x.seen();
        for (int length : new int[] {-1, 2001, MIN, MAX}) {
            due(x.file(length), -4);
            dueSame(x, before);
        }
        due(x.file(0), 1);
        due(x.file(2000), 2);
    }

    private static void seventhFile() {
        Run x = with(0, 1, 1, 1, 1, 1);
        due(x.file(4), 5);
        String before = x.seen();
        due(x.file(3), NONE);
        dueSame(x, before);
        due(x.file(0), NONE);
        due(x.grow(5, 0), 4);
    }

    private static void fileRefused() {
        Run unit = with(1, 2);
        unit.step(1);
        String before = unit.seen();
        due(unit.file(1), -5);
        dueSame(unit, before);
        unit.step(1);
        due(unit.file(1), -5);

        Run down = with(1, 2);
        down.check();
        down.cut(0);
        before = down.seen();
        due(down.file(1), -5);
        dueSame(down, before);
        down.restart(1);
        due(down.file(1), 1);

        Run back = downBehindTwoUnits();
        back.restart(1);
        due(back.file(6), 1);
    }

    private static void fileOrder() {
        Run unit = full();
        due(unit.file(2001), -4);
        due(unit.file(-1), -4);
        due(unit.file(1), NONE);
        unit.step(1);
        due(unit.file(2001), -4);
        due(unit.file(-1), -4);
        due(unit.file(1), -5);
        Run down = full();
        down.cut(0);
        due(down.file(2001), -4);
        due(down.file(-1), -4);
        due(down.file(1), -5);
    }

    // Promise 4

    private static void atMostN() {
        Run x = with(1, 2000);
        String before = x.seen();
        due(x.step(0), 0);
        dueSame(x, before);
        due(x.step(1), 1);
        due(x.step(1000), 1000);
        due(x.count(2), 1001);
        due(x.step(999), 999);
        due(x.step(0), 0);
        due(with(1, 3).step(2), 2);
        due(with(1, 3).step(3), 3);
        due(with(1, 3).step(4), 3);
        due(with(1, 0).step(1), 0);
    }

    private static void stepNotSo() {
        Run x = with(1, 2000);
        x.step(2);
        String before = x.seen();
        for (int n : new int[] {-1, 1001, MIN, MAX}) {
            due(x.step(n), -4);
            dueSame(x, before);
        }
        due(x.step(0), 0);
        due(x.step(1000), 1000);
        due(new Run().step(1001), -4);
        due(new Run().step(-1), -4);
    }

    private static void stepWhenDown() {
        Run x = downBehindTwoUnits();
        String before = x.seen();
        due(x.step(0), -5);
        due(x.step(1), -5);
        due(x.step(1000), -5);
        dueSame(x, before);
        due(x.step(1001), -4);
        due(x.step(-1), -4);
        Run ended = with(1, 0);
        ended.cut(0);
        due(ended.step(1), -5);
    }

    private static void fiveThousandUnits() {
        Run x = full();
        for (int i = 0; i < 4; i++) {
            due(x.step(1000), 1000);
        }
        due(x.step(999), 999);
        due(x.step(1000), 1);
        due(x.count(2), 5000);
        due(x.count(5), 0);
        String before = x.seen();
        due(x.step(1), 0);
        due(x.step(1000), 0);
        dueSame(x, before);
        due(x.whole(4999), x.get(4999 % 12));
        due(x.output(5000), 0);
        dueNoRow(x, 5000);
        due(x.step(1001), -4);
        due(x.check(), 1);
        due(x.equal(), true);
        Run exact = full();
        for (int i = 0; i < 5; i++) {
            due(exact.step(1000), 1000);
        }
        due(exact.step(1000), 0);
    }

    private static void unitsTakenBackMakeRoom() {
        Run x = full();
        for (int i = 0; i < 4; i++) {
            x.step(1000);
        }
        x.check();
        x.step(1000);
        due(x.step(1), 0);
        long last = x.whole(4999);
        x.cut(0);
        x.restart(1);
        due(x.count(2), 4000);
        due(x.step(1000), 1000);
        due(x.step(1), 0);
        due(x.whole(4999), last);
        due(x.equal(), true);
    }

    // Promise 5

    private static void checkOfEmptyAndFull() {
        Run empty = new Run();
        due(empty.check(), 1);
        due(empty.check(), 2);
        due(empty.torn(2), 0);
        empty.cut(0);
        due(empty.restart(2), 2);

        Run full = full();
        full.step(1000);
        due(full.check(), 1);
        due(full.torn(1), 0);
        full.step(1000);
        due(full.check(), 2);
        full.cut(0);
        due(full.restart(2), 2);
        due(full.count(2), 2000);
        due(full.check(), 3);
    }

    private static void checkWhenDown() {
        Run x = downBehindTwoUnits();
        String before = x.seen();
        due(x.check(), -5);
        dueSame(x, before);
        // A cut told meanwhile does not make it 0, and stays told.
        x.cut(1);
        due(x.check(), -5);
        dueSame(x, before);
        x.restart(1);
        due(x.check(), 0);
    }

    private static void hundredAndFirst() {
        Run x = with(1, 5);
        for (int k = 1; k <= 100; k++) {
            due(x.check(), k);
        }
        String before = x.seen();
        due(x.check(), NONE);
        dueSame(x, before);
        x.step(1);
        due(x.check(), NONE);
        due(x.torn(100), 0);
        due(x.torn(101), NONE);
        x.cut(0);
        due(x.check(), -5);
        due(x.restart(101), -1);
        due(x.restart(100), 100);
        due(x.count(2), 0);
        due(x.check(), NONE);
    }

    private static void noCutComesWhenFull() {
        for (int n = 1; n <= 6; n++) {
            Run x = with(1, 5);
            for (int k = 1; k <= 100; k++) {
                x.check();
            }
            x.cut(n);
            due(x.check(), NONE);
            due(x.count(3), 100);
            due(x.count(4), 0);
            due(x.count(6), 0);
            due(x.step(1), 1);
        }
    }

    private static void checkThatWasCut() {
        for (int n = 2; n <= 6; n++) {
            Run x = with(1, 5);
            x.step(1);
            x.check();
            x.step(1);
            x.cut(n);
            due(x.check(), 0);
            due(x.torn(2), 1);
            due(x.count(3), 2);
            due(x.count(4), 1);
            due(x.count(6), 1);
            due(x.count(2), 2);
            due(x.check(), -5);
        }
    }

    private static void cutAheadOfPart1() {
        Run x = with(1, 5);
        x.check();
        x.cut(1);
        due(x.check(), 0);
        due(x.count(3), 1);
        due(x.torn(2), NONE);
        due(x.count(4), 1);
        due(x.count(6), 1);
        due(x.restart(2), -1);
        due(x.restart(1), 1);
        due(x.check(), 2);

        Run first = new Run();
        first.cut(1);
        due(first.check(), 0);
        due(first.count(3), 0);
        due(first.restart(1), -1);
        due(first.count(4), 1);
    }

    // Promise 6

    private static void cutAtOnce() {
        Run x = with(1, 5);
        x.check();
        x.step(2);
        due(x.cut(0), 1);
        due(x.count(4), 1);
        due(x.count(6), 1);
        due(x.count(3), 1);
        due(x.count(2), 2);
        due(x.step(1), -5);
        due(x.cut(0), 1);
        due(x.count(4), 1);
        due(x.restart(1), 1);
        due(x.count(4), 0);
        due(x.check(), 2);
    }

    private static void cutWaitsForEnoughParts() {
        Run x = new Run();
        due(x.cut(6), 1);
        due(x.check(), 1);
        x.cell(1);
        due(x.check(), 2);
        x.file(1);
        due(x.check(), 0);
        due(x.torn(3), 1);

        Run most = full();
        for (int n = 23; n <= 30; n++) {
            due(most.cut(n), 1);
            due(most.check(), n - 22);
        }
        due(most.count(6), 0);
        due(most.cut(22), 1);
        due(most.check(), 0);
        due(most.torn(9), 1);

        Run least = new Run();
        due(least.cut(5), 1);
        due(least.check(), 1);
        due(least.cut(4), 1);
        due(least.check(), 0);
    }

    private static void cutComesOnce() {
        Run x = with(1, 5);
        x.check();
        x.cut(4);
        due(x.check(), 0);
        x.restart(1);
        due(x.check(), 2);
        x.cut(1);
        due(x.check(), 0);
        x.restart(2);
        due(x.check(), 3);
        due(x.count(6), 2);
        // Told when down, it comes behind the restart, for it is the next checkpoint still.
        x.cut(0);
        x.cut(2);
        due(x.count(6), 3);
        x.restart(3);
        due(x.check(), 0);
        due(x.count(6), 4);
    }

    private static void cutToldAgain() {
        Run later = with(1, 5);
        later.check();
        due(later.cut(1), 1);
        due(later.cut(6), 1);
        due(later.check(), 0);
        due(later.torn(2), 1);
        due(later.count(6), 1);
        later.restart(1);
        due(later.check(), 2);

        Run sooner = with(1, 5);
        sooner.check();
        sooner.cut(6);
        sooner.cut(1);
        due(sooner.check(), 0);
        due(sooner.count(3), 1);

        Run never = with(1, 5);
        never.cut(2);
        never.cut(7);
        due(never.check(), 1);
    }

    private static void cutAtOnceForgets() {
        Run x = with(1, 5);
        x.check();
        x.cut(2);
        due(x.cut(0), 1);
        x.restart(1);
        due(x.check(), 2);
        due(x.count(6), 1);
    }

    private static void cutNotSo() {
        Run x = with(1, 5);
        x.check();
        x.cut(2);
        String before = x.seen();
        for (int write : new int[] {-1, 31, MIN, MAX}) {
            due(x.cut(write), -4);
            dueSame(x, before);
        }
        // What was told before still holds.
        due(x.check(), 0);
        due(x.cut(31), -4);
        due(x.cut(-1), -4);
        due(x.count(6), 1);
        due(x.cut(30), 1);
        due(x.cut(1), 1);
        due(x.cut(0), 1);
    }

    // Promise 7

    private static void restartGoesOn() {
        Run x = with(1, 9);
        x.check();
        x.step(1);
        x.check();
        x.step(1);
        x.check();
        x.step(1);
        for (int k = 3; k >= 1; k--) {
            x.cut(0);
            due(x.restart(k), k);
            due(x.count(4), 0);
            due(x.count(2), k - 1);
        }
        due(x.step(9), 9);
        due(x.equal(), true);
    }

    private static void restartAtTheLatestWholeBefore() {
        Run x = with(1, 9);
        x.check();
        x.step(1);
        x.check();
        x.step(1);
        x.cut(6);
        x.check();
        due(x.restart(3), 2);
        due(x.count(2), 1);
        due(x.count(3), 2);
        // A torn one does not hinder a whole one asked for by its number.
        x.cut(2);
        x.check();
        due(x.restart(1), 1);
        due(x.count(2), 0);
        due(x.count(3), 1);
        x.cut(2);
        x.check();
        due(x.restart(2), 1);
    }

    private static void restartNotDown() {
        Run x = with(1, 9);
        due(x.restart(1), -5);
        x.check();
        x.step(2);
        String before = x.seen();
        due(x.restart(1), -5);
        dueSame(x, before);
        x.cut(3);
        due(x.restart(1), -5);
        x.check();
        due(x.restart(1), 1);
        due(x.restart(1), -5);
    }

    private static void restartNoneSuch() {
        Run x = downBehindTwoUnits();
        String before = x.seen();
        for (int check : new int[] {0, -1, 2, 100, 101, MIN, MAX}) {
            due(x.restart(check), -1);
        }
        dueSame(x, before);
        due(x.restart(1), 1);
        Run none = new Run();
        none.cut(0);
        due(none.restart(1), -1);
        due(none.restart(0), -1);
        due(none.count(4), 1);
    }

    private static void restartNoWholeOne() {
        Run x = with(1, 9);
        x.step(1);
        x.cut(2);
        x.check();
        String before = x.seen();
        due(x.restart(1), -1);
        dueSame(x, before);
        due(x.torn(1), 1);
        due(x.count(4), 1);
    }

    private static void restartOtherEdition() {
        Run x = downBehindTwoUnits();
        for (int e : new int[] {1, -1, MIN, MAX}) {
            x.edition(e);
            due(x.restart(1), -3);
            due(x.count(4), 1);
            due(x.count(2), 2);
        }
        x.edition(0);
        due(x.restart(1), 1);

        // The edition of the checkpoint that it would go on at counts, not the torn one's.
        Run torn = with(1, 9);
        torn.check();
        torn.edition(5);
        torn.cut(6);
        torn.check();
        due(torn.restart(2), -3);
        due(torn.torn(2), 1);
        torn.edition(0);
        due(torn.restart(2), 1);
        torn.edition(5);
        due(torn.check(), 2);
        torn.edition(8);
        due(torn.check(), 3);
        torn.edition(5);
        torn.cut(0);
        due(torn.restart(2), 2);
        torn.cut(6);
        torn.check();
        torn.edition(8);
        due(torn.restart(3), -3);
        torn.edition(5);
        due(torn.restart(3), 2);

        // A restart leaves the edition as it is now.
        Run kept = with(1, 9);
        kept.edition(6);
        kept.check();
        kept.cut(0);
        due(kept.restart(1), 1);
        due(kept.edition(6), 6);
    }

    private static void restartShorterFile() {
        Run x = with(1, 1, 9);
        x.step(6);
        x.check();
        x.cut(0);
        due(x.position(1), 3);
        due(x.grow(1, -7), 2);
        String before = x.seen();
        due(x.restart(1), -2);
        dueSame(x, before);
        due(x.grow(1, 1), 3);
        due(x.grow(0, -1), 0);
        due(x.restart(1), -2);
        due(x.grow(0, 1), 1);
        due(x.restart(1), 1);
        due(x.position(1), 3);
        due(x.count(5), 1);

        // Its position there counts, not the one now.
        Run there = with(1, 9);
        there.step(2);
        there.check();
        there.step(5);
        there.cut(0);
        due(there.grow(0, -7), 2);
        due(there.restart(1), 1);
        due(there.grow(0, 0), 2);
    }

    private static void restartOrder() {
        Run x = with(1, 9);
        x.step(3);
        x.check();
        x.edition(2);
        x.grow(0, -8);
        due(x.restart(0), -5);
        due(x.restart(1), -5);
        x.cut(0);
        due(x.restart(2), -1);
        due(x.restart(1), -3);
        x.edition(0);
        due(x.restart(2), -1);
        due(x.restart(1), -2);
        x.grow(0, 2);
        due(x.restart(1), 1);

        Run noWhole = with(1, 9);
        noWhole.step(3);
        noWhole.cut(2);
        noWhole.check();
        noWhole.edition(2);
        noWhole.grow(0, -9);
        due(noWhole.restart(1), -1);
    }

    private static void restartPutsBack() {
        Run x = full();
        x.step(1000);
        x.step(7);
        long[] cells = new long[12];
        int[] positions = new int[6];
        for (int c = 0; c < 12; c++) {
            cells[c] = x.get(c);
        }
        for (int f = 0; f < 6; f++) {
            positions[f] = x.position(f);
        }
        x.check();
        x.step(1000);
        x.check();
        x.step(9);
        x.cut(22);
        x.check();
        due(x.restart(1), 1);
        for (int c = 0; c < 12; c++) {
            due(x.get(c), cells[c]);
        }
        for (int f = 0; f < 6; f++) {
            due(x.position(f), positions[f]);
        }
        due(x.count(2), 1007);
        due(x.count(4), 0);
        due(x.equal(), true);
    }

    private static void toldBehindAsAtFirst() {
        Run x = new Run();
        x.check();
        x.cell(Long.MIN_VALUE);
        x.file(3);
        x.check();
        x.cell(-4);
        x.file(2);
        x.step(5);
        x.cut(0);
        due(x.restart(2), 2);
        due(x.count(0), 2);
        due(x.count(1), 2);
        due(x.get(0), Long.MIN_VALUE);
        due(x.get(1), -4);
        due(x.position(0), 0);
        due(x.position(1), 0);
        x.step(5);
        // Longer or shorter meanwhile, a file told behind is unread there, so never too short.
        x.cut(0);
        x.grow(0, -3);
        x.grow(1, -2);
        due(x.restart(1), 1);
        due(x.get(0), Long.MIN_VALUE);
        due(x.get(1), -4);
        due(x.position(0), 0);
        due(x.position(1), 0);
        due(x.grow(0, 0), 0);
        due(x.count(5), 1);
        due(x.equal(), true);
    }

    private static void rowsBehindAreGone() {
        Run x = with(1, 9);
        x.check();
        x.step(3);
        x.check();
        x.step(4);
        long third = x.whole(2);
        x.cut(0);
        due(x.output(6) != 0, true);
        x.restart(2);
        due(x.whole(2), third);
        due(x.output(3), 0);
        dueNoRow(x, 3);
        dueNoRow(x, 6);
        x.cut(0);
        x.restart(1);
        due(x.output(0), 0);
        dueNoRow(x, 0);
    }

    private static void checkpointsBehindAreGone() {
        Run x = with(1, 9);
        x.check();
        x.check();
        x.cut(2);
        x.check();
        due(x.count(3), 3);
        due(x.restart(1), 1);
        due(x.count(3), 1);
        due(x.torn(1), 0);
        due(x.torn(2), NONE);
        due(x.torn(3), NONE);
        x.cut(0);
        due(x.restart(2), -1);
        due(x.restart(3), -1);
        due(x.restart(1), 1);
    }

    private static void numbersUsedAgain() {
        Run x = with(1, 9);
        x.check();
        x.step(1);
        x.check();
        x.cut(0);
        x.restart(1);
        x.step(4);
        due(x.check(), 2);
        x.step(1);
        x.cut(0);
        due(x.restart(2), 2);
        due(x.count(2), 4);

        Run full = with(1, 9);
        for (int k = 1; k <= 100; k++) {
            full.check();
        }
        full.cut(0);
        full.restart(98);
        due(full.check(), 99);
        due(full.check(), 100);
        due(full.check(), NONE);
    }

    // Promise 8

    private static void firstAndLastCell() {
        Run x = new Run();
        for (int i = 0; i < 12; i++) {
            x.cell(Long.MAX_VALUE - i);
        }
        due(x.get(0), Long.MAX_VALUE);
        due(x.get(11), Long.MAX_VALUE - 11);
    }

    private static void noSuchCell() {
        Run none = new Run();
        for (int cell : new int[] {0, -1, 1, MIN, MAX}) {
            dueNoCell(none, cell);
        }
        Run some = with(3);
        due(some.get(2), 0);
        dueNoCell(some, 3);
        dueNoCell(some, 11);
        dueNoCell(some, -1);
        Run full = full();
        for (int cell : new int[] {12, -1, 13, MIN, MAX}) {
            dueNoCell(full, cell);
        }
        full.cut(0);
        dueNoCell(full, 12);
        due(full.count(0), 12);
    }

    private static void cellWhileDown() {
        Run once = with(1, 5);
        once.check();
        once.step(2);
        once.cut(0);
        due(once.get(0), 1000 + 2 * 1001);
        once.grow(0, -5);
        once.edition(3);
        once.restart(1);
        due(once.get(0), 1000 + 2 * 1001);
        Run part = with(1, 5);
        part.check();
        part.step(1);
        part.cut(3);
        part.check();
        due(part.get(0), 1000);
        part.restart(1);
        due(part.get(0), 0);
    }

    // Promise 9

    private static void firstAndLastFile() {
        Run x = full();
        x.step(7);
        due(x.position(0), 2);
        due(x.position(5), 1);
        x.cut(0);
        due(x.position(0), 2);
    }

    private static void noSuchFile() {
        Run none = new Run();
        for (int file : new int[] {0, -1, 1, MIN, MAX}) {
            due(none.position(file), NONE);
        }
        Run some = with(1, 1, 1);
        due(some.position(1), 0);
        due(some.position(2), NONE);
        due(some.position(5), NONE);
        Run full = full();
        for (int file : new int[] {6, -1, 7, MIN, MAX}) {
            due(full.position(file), NONE);
        }
    }

    // Promise 10

    private static void growMoreAndLess() {
        Run x = with(1, 10, 20);
        due(x.grow(0, 1), 11);
        due(x.grow(0, -1), 10);
        due(x.grow(0, 0), 10);
        due(x.grow(0, 1990), 2000);
        due(x.grow(0, 0), 2000);
        due(x.grow(0, -2000), 0);
        due(x.grow(0, 2000), 2000);
        due(x.grow(0, -1999), 1);
        due(x.grow(1, 0), 20);
        due(x.grow(1, -20), 0);
        due(x.step(9), 1);
        due(x.count(5), 1);
        due(x.grow(1, 1), 1);
        due(x.step(9), 1);
        due(x.get(0), 1000 + 2 * 2000);
    }

    private static void growNoSuchFile() {
        Run none = new Run();
        due(none.grow(0, 0), NONE);
        due(none.grow(0, 2001), NONE);
        Run some = with(1, 1, 1);
        String before = some.seen();
        for (int file : new int[] {2, 5, 6, -1, MIN, MAX}) {
            due(some.grow(file, 1), NONE);
            due(some.grow(file, MAX), NONE);
            due(some.grow(file, MIN), NONE);
        }
        dueSame(some, before);
        due(full().grow(6, 0), NONE);
        due(full().grow(5, 0), 2000);
    }

    private static void growNotSo() {
        Run x = with(1, 10);
        x.step(2);
        String before = x.seen();
        for (int n : new int[] {-11, 1991, MIN, MAX, -2000, 2000}) {
            due(x.grow(0, n), -4);
            dueSame(x, before);
        }
        due(x.grow(0, -10), 0);
        due(x.grow(0, -1), -4);
        due(x.grow(0, MIN), -4);
        due(x.grow(0, 2000), 2000);
        due(x.grow(0, 1), -4);
        due(x.grow(0, MAX), -4);
        due(x.grow(0, 0), 2000);
        x.cut(0);
        due(x.grow(0, 1), -4);
        due(x.grow(0, -1), 1999);
    }

    private static void growBelowThePosition() {
        Run x = with(1, 5, 1);
        x.step(8);
        due(x.position(0), 4);
        due(x.grow(0, -3), 2);
        due(x.position(0), 4);
        due(x.count(5), 1);
        due(x.step(1), 0);
        due(x.grow(0, 2), 4);
        due(x.count(5), 1);
        due(x.step(1), 0);
        due(x.grow(0, 1), 5);
        due(x.count(5), 0);
        long before = x.get(0);
        due(x.step(2), 1);
        due(x.get(0) - before, 9 * 1004);

        // With another file going on, a unit at the shrunken one reads none and writes a row.
        Run on = with(1, 5, 9);
        on.step(4);
        on.grow(0, -5);
        long row = on.get(0);
        due(on.step(1), 1);
        due(on.whole(4), row);
        due(on.position(0), 2);
    }

    // Promise 11

    private static void editions() {
        Run x = new Run();
        int before = 0;
        for (int e : new int[] {1, MAX, MIN, -1, -1, 0}) {
            due(x.edition(e), before);
            before = e;
        }
        x.check();
        x.cut(0);
        due(x.edition(9), 0);
        due(x.edition(9), 9);
        due(x.restart(1), -3);
        due(x.edition(0), 9);
        due(x.restart(1), 1);
    }

    // Promises 12 and 14

    private static Run bits() {
        Run x = new Run();
        x.cell(0x7fffffff_ffffffffL - 1000);
        x.cell(0x00000000_80000000L - 2 * 1001);
        x.cell(-1 - 3 * 1002);
        x.cell(0xffffffff_00000000L - 4 * 1003);
        x.file(4);
        x.step(4);
        return x;
    }

    private static void lowestBits() {
        Run x = bits();
        due(x.output(0), -1);
        due(x.output(1), MIN);
        due(x.output(2), -1);
        due(x.output(3), 0);
        Run last = full();
        for (int i = 0; i < 5; i++) {
            last.step(1000);
        }
        due(last.output(0), 1000);
        due(last.output(4999), (int) last.get(4999 % 12));
    }

    private static void outputNone() {
        Run none = new Run();
        due(none.output(0), 0);
        Run x = with(1, 5);
        x.step(2);
        due(x.output(1) != 0, true);
        for (int i : new int[] {2, -1, 4999, 5000, MIN, MAX}) {
            due(x.output(i), 0);
        }
        x.cut(0);
        due(x.output(2), 0);
    }

    private static void highestBits() {
        Run x = bits();
        due(x.row(0), MAX);
        due(x.row(1), 0);
        due(x.row(2), -1);
        due(x.row(3), -1);
    }

    private static void noSuchRow() {
        Run none = new Run();
        for (int i : new int[] {0, -1, MIN, MAX}) {
            dueNoRow(none, i);
        }
        Run x = with(1, 5);
        x.step(2);
        due(x.row(1), 0);
        for (int i : new int[] {2, -1, 4999, 5000, MIN, MAX}) {
            dueNoRow(x, i);
        }
        x.cut(0);
        dueNoRow(x, 2);
        due(x.row(1), 0);
        Run last = full();
        for (int i = 0; i < 5; i++) {
            last.step(1000);
        }
        due(last.row(4999), 0);
        dueNoRow(last, 5000);
    }

    // Promise 13

    private static void tornOrWhole() {
        Run x = with(1, 5);
        x.check();
        x.cut(2);
        x.check();
        due(x.torn(1), 0);
        due(x.torn(2), 1);
        x.restart(1);
        x.check();
        due(x.torn(2), 0);
        x.cut(6);
        x.check();
        due(x.torn(3), 1);
        due(x.torn(2), 0);
    }

    private static void tornNoneSuch() {
        Run none = new Run();
        due(none.torn(0), NONE);
        due(none.torn(1), NONE);
        Run x = with(1, 5);
        x.check();
        for (int check : new int[] {0, 2, -1, 100, 101, MIN, MAX}) {
            due(x.torn(check), NONE);
        }
        x.cut(1);
        x.check();
        due(x.torn(2), NONE);
        due(x.torn(1), 0);
    }

    // Promise 15

    /** Unit 4 adds 4 * 1000; with the lengths now it is unit 2 that adds as much, 2 * 2000. */
    private static void rowsCountBesideCells() {
        Run x = with(1, 0, 0, 9);
        x.step(3);
        x.grow(0, 1);
        x.step(1);
        due(x.get(0), 3 * 3000 + 4 * 1000);
        x.grow(0, -1);
        x.grow(1, 1);
        due(x.equal(), false);
        x.grow(1, -1);
        due(x.equal(), false);
    }

    private static void asManyUnits() {
        Run none = new Run();
        due(none.equal(), true);
        Run x = with(2, 3, 1);
        due(x.equal(), true);
        for (int u = 1; u <= 5; u++) {
            due(x.step(1), 1);
            due(x.equal(), true);
        }
        Run most = full();
        for (int i = 0; i < 5; i++) {
            most.step(1000);
            due(most.equal(), true);
        }
    }

    /** There are no more units behind the end, so their rows are not those of as many units. */
    private static void asManyUnitsCannotBeHad() {
        Run x = with(0, 3);
        x.step(3);
        due(x.equal(), true);
        x.grow(0, -1);
        due(x.equal(), false);
        x.grow(0, -2);
        due(x.equal(), false);
        x.grow(0, 3);
        due(x.equal(), true);
    }

    private static void equalAfterACutAtEachPart() {
        int parts = 4 + 2 + 2;
        Run x = with(2, 40, 1);
        x.check();
        for (int n = 0; n <= parts; n++) {
            x.step(2);
            due(x.check(), n + 2);
            x.step(1);
            x.cut(n);
            x.check();
            due(x.count(4), 1);
            due(x.equal(), true);
            due(x.restart(n + 2), n + 2);
            due(x.equal(), true);
            x.step(1);
            due(x.equal(), true);
        }
    }

    private static void equalByLengthsNow() {
        Run x = with(1, 4, 1);
        x.step(4);
        due(x.equal(), true);
        x.grow(1, 1);
        due(x.equal(), false);
        x.grow(1, -2);
        due(x.equal(), false);
        x.grow(1, 1);
        due(x.equal(), true);
        x.grow(0, -2);
        x.grow(0, 2);
        due(x.equal(), true);
        x.grow(0, 1996);
        due(x.equal(), true);

        // A record that was not there at its turn, and is read later, is not as without a cut.
        Run late = with(1, 9, 0);
        late.check();
        late.step(2);
        late.grow(1, 2);
        due(late.equal(), false);
        late.step(2);
        due(late.equal(), false);
        late.cut(0);
        due(late.equal(), false);
        late.restart(1);
        due(late.equal(), true);
        late.step(4);
        due(late.equal(), true);
    }

    // Promise 16

    private static void countsFromEmptyToFull() {
        Run x = new Run();
        for (int what = 0; what <= 3; what++) {
            due(x.count(what), 0);
        }
        for (int i = 1; i <= 12; i++) {
            x.cell(0);
            due(x.count(0), i);
        }
        x.cell(0);
        due(x.count(0), 12);
        for (int i = 1; i <= 6; i++) {
            x.file(2000);
            due(x.count(1), i);
        }
        x.file(2000);
        due(x.count(1), 6);
        for (int i = 1; i <= 5; i++) {
            x.step(1000);
            due(x.count(2), 1000 * i);
        }
        x.step(1000);
        due(x.count(2), 5000);
        for (int i = 1; i <= 100; i++) {
            x.check();
            due(x.count(3), i);
        }
        x.check();
        due(x.count(3), 100);
    }

    private static void countDown() {
        Run x = with(1, 5);
        due(x.count(4), 0);
        x.check();
        x.cut(6);
        due(x.count(4), 0);
        x.check();
        due(x.count(4), 1);
        x.restart(3);
        due(x.count(4), 1);
        x.restart(2);
        due(x.count(4), 0);
        x.cut(0);
        due(x.count(4), 1);
    }

    private static void countEnded() {
        Run x = with(1, 1);
        due(x.count(5), 0);
        x.check();
        x.step(1);
        due(x.count(5), 1);
        x.cut(0);
        due(x.count(5), 1);
        x.grow(0, 1);
        due(x.count(5), 0);
        x.grow(0, -1);
        x.restart(1);
        due(x.count(5), 0);
        x.grow(0, -1);
        due(x.count(5), 1);
    }

    private static void countCuts() {
        Run x = with(1, 5);
        x.check();
        x.cut(7);
        x.check();
        due(x.count(6), 0);
        x.cut(1);
        due(x.count(6), 0);
        x.cut(6);
        due(x.count(6), 0);
        x.check();
        due(x.count(6), 1);
        x.restart(2);
        due(x.count(6), 1);
        x.cut(1);
        x.check();
        due(x.count(6), 2);
        x.restart(2);
        x.cut(0);
        due(x.count(6), 3);
        x.cut(31);
        due(x.count(6), 3);
        x.cut(0);
        due(x.count(6), 4);
    }

    private static void countOthers() {
        Run x = with(2, 3);
        x.step(1);
        for (int what : new int[] {-1, 7, 8, MIN, MAX}) {
            due(x.count(what), NONE);
        }
        x.cut(0);
        due(x.count(7), NONE);
        due(new Run().count(-1), NONE);
    }

    // The document

    private static void lookUpInDocument(String document) {
        String terms = section(document, "Terms");
        String about = section(document, "What it is");
        boolean[] bornInTerms = new boolean[terms.length()];
        for (Sentence s : SENTENCES) {
            now = "promise " + s.promise() + ", \"" + s.words() + "\"";
            String promise = section(document, "Promise " + s.promise() + ":");
            if (!promise.contains(s.words()) && !terms.contains(s.words()) && !about.contains(s.words())) {
                fault("the document does not say so there");
            }
            mark(terms, s.words(), bornInTerms);
        }
        now = "the document's terms";
        faultIfLeft(terms, bornInTerms);
        for (int p = 1; p <= 16; p++) {
            now = "promise " + p;
            String text = section(document, "Promise " + p + ":").replaceFirst("`.*?`: ", "");
            boolean[] born = new boolean[text.length()];
            for (Sentence s : SENTENCES) {
                if (s.promise() == p) {
                    mark(text, s.words(), born);
                }
            }
            faultIfLeft(text, born);
        }
    }

    private static String section(String document, String heading) {
        int start = document.indexOf("\n## " + heading);
        if (start < 0) {
            return "";
        }
        start = document.indexOf('\n', start + 1);
        int end = document.indexOf("\n## ", start);
        return document.substring(start, end < 0 ? document.length() : end).strip();
    }

    private static void mark(String text, String words, boolean[] born) {
        int at = text.indexOf(words);
        for (int i = Math.max(at, 0); i < at + words.length() && at >= 0; i++) {
            born[i] = true;
        }
    }

    /** Letters and digits that no test bears; what joins sentences ("; and so on") has none. */
    private static void faultIfLeft(String text, boolean[] born) {
        List<String> left = new ArrayList<>();
        StringBuilder part = new StringBuilder();
        for (int i = 0; i <= text.length(); i++) {
            if (i < text.length() && !born[i]) {
                part.append(text.charAt(i));
                continue;
            }
            if (part.chars().anyMatch(Character::isLetterOrDigit)) {
                left.add(part.toString().strip());
            }
            part.setLength(0);
        }
        if (text.isEmpty() || !left.isEmpty()) {
            fault("no test bears the words " + left);
        }
    }
}
