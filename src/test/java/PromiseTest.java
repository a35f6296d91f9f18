/**
 * For each promise of the document: ordinary inputs, the edges that it names, and wrong inputs.
 * Every test makes objects of its own.
 */
public final class PromiseTest {
    private static int wrong = 0;
    private static int asked = 0;

    private static void due(String what, long got, long want) {
        asked++;
        if (got != want) {
            wrong++;
            System.out.println(what + " answered " + got + ", due is " + want);
        }
    }

    private static void due(String what, boolean got, boolean want) {
        due(what, got ? 1 : 0, want ? 1 : 0);
    }

    private static void dueNoCell(String what, CheckRestart x, int cell) {
        Class<?> thrown = null;
        try {
            x.get(cell);
        } catch (RuntimeException e) {
            thrown = e.getClass();
        }
        due(what + " throws IllegalArgumentException", thrown == IllegalArgumentException.class, true);
    }

    private static void dueNoRow(String what, CheckRestart x, int i) {
        Class<?> thrown = null;
        try {
            x.row(i);
        } catch (RuntimeException e) {
            thrown = e.getClass();
        }
        due(what + " throws ArrayIndexOutOfBoundsException",
                thrown == ArrayIndexOutOfBoundsException.class, true);
    }

    private static void dueCounts(String what, CheckRestart x, int... want) {
        for (int i = 0; i < want.length; i++) {
            due(what + ", count(" + i + ")", x.count(i), want[i]);
        }
    }

    /** One cell of 0 and one file, so unit u adds u * (1000 + u - 1). */
    private static CheckRestart plain(int length) {
        CheckRestart x = new CheckRestart();
        x.cell(0);
        x.file(length);
        return x;
    }

    private static CheckRestart plainDown(int length) {
        CheckRestart x = plain(length);
        x.cut(0);
        return x;
    }

    public static void main(String[] args) {
        newObject();
        cells();
        files();
        filesInWrongState();
        stepReadsInTurn();
        stepLimits();
        stepWithoutCellsOrFiles();
        checkNumbers();
        checkCutAtEachPart();
        checkAtMostHundred();
        cutAtOnce();
        cutToldAgain();
        cutWaitsForEnoughParts();
        cutKeptOverRestart();
        restartPutsBack();
        restartOrderOfRefusals();
        restartTornGoesBefore();
        restartShrunkFiles();
        restartToldBehind();
        restartUsesNumbersAgain();
        getCells();
        positions();
        growing();
        growBelowPosition();
        editions();
        outputs();
        tornOnes();
        rows();
        equalAfterCuts();
        equalAfterGrow();
        equalBehindTheEnd();
        counts();
        allLimitsAtOnce();
        System.out.println(asked + " answers asked, " + wrong + " wrong");
        if (wrong != 0) {
            System.exit(1);
        }
    }

    // Promise 1

    private static void newObject() {
        CheckRestart x = new CheckRestart();
        dueCounts("new", x, 0, 0, 0, 0, 0, 1, 0);
        due("new: edition", x.edition(1), 0);
        due("new: equal", x.equal(), true);
        due("new: restart", x.restart(1), -5);
        due("new: torn", x.torn(1), -1);
        due("NONE", CheckRestart.NONE, -1);
    }

    // Promise 2

    private static void cells() {
        CheckRestart x = new CheckRestart();
        for (int i = 0; i < 12; i++) {
            due("cell " + i, x.cell(Long.MIN_VALUE + i), i);
        }
        due("13th cell", x.cell(5), -1);
        due("12 cells", x.count(0), 12);
        due("get(11)", x.get(11), Long.MIN_VALUE + 11);
        x.file(3);
        x.step(0);
        due("cell after step(0): still NONE", x.cell(5), -1);
        x.step(1);
        due("-5 ahead of NONE", x.cell(5), -5);

        CheckRestart down = plainDown(1);
        due("cell when down", down.cell(1), -5);
        due("no cell came", down.count(0), 1);

        CheckRestart unit = plain(2);
        unit.step(1);
        due("cell after a unit", unit.cell(1), -5);
    }

    // Promise 3

    private static void files() {
        CheckRestart x = new CheckRestart();
        due("file(-1)", x.file(-1), -4);
        due("file(2001)", x.file(2001), -4);
        due("file(MIN)", x.file(Integer.MIN_VALUE), -4);
        due("file(MAX)", x.file(Integer.MAX_VALUE), -4);
        due("no file came", x.count(1), 0);
        due("file(0)", x.file(0), 0);
        due("file(2000)", x.file(2000), 1);
        for (int i = 2; i < 6; i++) {
            due("file " + i, x.file(i), i);
        }
        due("7th file", x.file(1), -1);
        due("7th file, length not so", x.file(2001), -4);
        due("6 files", x.count(1), 6);
        due("length 2000", x.grow(1, 0), 2000);
    }

    private static void filesInWrongState() {
        CheckRestart x = new CheckRestart();
        for (int i = 0; i < 6; i++) {
            x.file(1);
        }
        x.step(1);
        due("-4 ahead of -5", x.file(-1), -4);
        due("-5 ahead of NONE", x.file(1), -5);
        CheckRestart down = plainDown(1);
        due("file when down", down.file(1), -5);
        due("file when down, length not so", down.file(2001), -4);
        due("no file came", down.count(1), 1);
    }

    // Promise 4

    private static void stepReadsInTurn() {
        CheckRestart x = new CheckRestart();
        x.cell(10);
        x.cell(20);
        x.cell(30);
        x.file(1);
        x.file(3);
        due("step(2)", x.step(2), 2);
        due("cell 0", x.get(0), 10 + 1 * 1000);
        due("cell 1", x.get(1), 20 + 2 * 2000);
        due("step(0)", x.step(0), 0);
        due("step(100) to the end", x.step(100), 4);
        // Units 3 and 5 find file 0 read through; units 4 and 6 read file 1.
        due("cell 2, unit 3 read none", x.output(2), 30);
        due("cell 0, unit 4", x.get(0), 10 + 1000 + 4 * 2001);
        due("cell 1, unit 5 read none", x.output(4), 20 + 4000);
        due("cell 2, unit 6", x.get(2), 30 + 6 * 2002);
        due("units", x.count(2), 6);
        due("ended", x.count(5), 1);
        due("step when ended", x.step(1), 0);

        CheckRestart round = new CheckRestart();
        round.cell(Long.MAX_VALUE);
        round.file(1);
        round.step(1);
        due("a cell goes round", round.get(0), Long.MIN_VALUE + 999);
    }

    private static void stepLimits() {
        CheckRestart x = plain(2000);
        due("step(-1)", x.step(-1), -4);
        due("step(1001)", x.step(1001), -4);
        due("step(MIN)", x.step(Integer.MIN_VALUE), -4);
        due("nothing done", x.count(2), 0);
        due("step(1000)", x.step(1000), 1000);
        x.cut(0);
        due("step when down", x.step(1), -5);
        due("step(0) when down", x.step(0), -5);
        due("step(1001) when down", x.step(1001), -4);

        CheckRestart most = new CheckRestart();
        most.cell(0);
        for (int i = 0; i < 6; i++) {
            most.file(2000);
        }
        most.step(999);
        for (int i = 0; i < 4; i++) {
            due("step(1000)", most.step(1000), 1000);
        }
        due("only one more unit", most.step(1000), 1);
        due("no more units", most.step(1), 0);
        due("5000 units", most.count(2), 5000);
        due("not ended", most.count(5), 0);
        due("equal at the limit", most.equal(), true);
    }

    private static void stepWithoutCellsOrFiles() {
        CheckRestart noFiles = new CheckRestart();
        noFiles.cell(4);
        due("step without files", noFiles.step(3), 0);
        due("ended without files", noFiles.count(5), 1);
        due("a cell may still be told", noFiles.cell(5), 1);

        CheckRestart noCells = new CheckRestart();
        noCells.file(2);
        due("step without cells", noCells.step(9), 2);
        due("position without cells", noCells.position(0), 2);
        due("row without cells", noCells.output(1), 0);
        due("row without cells, high", noCells.row(1), 0);
        due("equal without cells", noCells.equal(), true);
    }

    // Promise 5

    private static void checkNumbers() {
        CheckRestart x = plain(5);
        due("first", x.check(), 1);
        x.step(1);
        due("second", x.check(), 2);
        due("third", x.check(), 3);
        x.cut(0);
        due("check when down", x.check(), -5);
        due("three of them", x.count(3), 3);
    }

    private static void checkCutAtEachPart() {
        int parts = 4 + 2 + 3;
        for (int n = 1; n <= 30; n++) {
            CheckRestart x = new CheckRestart();
            x.cell(1);
            x.cell(2);
            x.file(4);
            x.file(4);
            x.file(4);
            x.check();
            x.cut(n);
            String what = "cut(" + n + ") of " + parts + " parts";
            boolean comes = n <= parts;
            due(what + ": check", x.check(), comes ? 0 : 2);
            due(what + ": checkpoints", x.count(3), n == 1 ? 1 : 2);
            due(what + ": torn", x.torn(2), n == 1 ? -1 : comes ? 1 : 0);
            due(what + ": down", x.count(4), comes ? 1 : 0);
            due(what + ": cuts", x.count(6), comes ? 1 : 0);
            due(what + ": the one before is whole", x.torn(1), 0);
        }
    }

    private static void checkAtMostHundred() {
        CheckRestart x = plain(5);
        for (int i = 1; i <= 99; i++) {
            due("check " + i, x.check(), i);
        }
        x.cut(3);
        due("the 100th is torn", x.check(), 0);
        due("it counts", x.count(3), 100);
        due("restart", x.restart(100), 99);
        due("the 100th", x.check(), 100);
        x.cut(1);
        due("the 101st", x.check(), -1);
        due("not down by it", x.count(4), 0);
        due("no cut came", x.count(6), 1);
        x.cut(0);
        due("-5 ahead of NONE", x.check(), -5);
        due("restart(100)", x.restart(100), 100);
    }

    // Promise 6

    private static void cutAtOnce() {
        CheckRestart x = plain(5);
        x.check();
        due("cut(-1)", x.cut(-1), -4);
        due("cut(31)", x.cut(31), -4);
        due("cut(MIN)", x.cut(Integer.MIN_VALUE), -4);
        due("cut(MAX)", x.cut(Integer.MAX_VALUE), -4);
        due("not down", x.count(4), 0);
        due("cut(0)", x.cut(0), 1);
        due("down", x.count(4), 1);
        due("a cut came", x.count(6), 1);
        due("cut(0) when down", x.cut(0), 1);
        due("that came too", x.count(6), 2);
        due("still down", x.count(4), 1);
        due("cut(31) when down", x.cut(31), -4);
        due("edition when down", x.edition(0), 0);
        due("grow when down", x.grow(0, 1), 6);
        due("step when down", x.step(1), -5);
        due("restart", x.restart(1), 1);
        due("not down", x.count(4), 0);
    }

    private static void cutToldAgain() {
        CheckRestart x = plain(5);
        x.check();
        x.cut(1);
        x.cut(6);
        due("the later one holds", x.check(), 0);
        due("begun", x.torn(2), 1);
        x.restart(2);
        due("it came but once", x.check(), 2);
        x.cut(2);
        x.cut(7);
        due("7 is above its 6 parts, 2 forgotten", x.check(), 3);
        x.cut(2);
        x.cut(31);
        due("a wrong one makes nothing forgotten", x.check(), 0);
        x.restart(1);
        x.cut(2);
        x.cut(0);
        x.restart(1);
        due("cut(0) makes forgotten", x.check(), 2);
    }

    private static void cutWaitsForEnoughParts() {
        CheckRestart x = new CheckRestart();
        x.cut(5);
        due("4 parts", x.check(), 1);
        x.cell(1);
        due("5 parts", x.check(), 0);
        due("torn", x.torn(2), 1);
    }

    private static void cutKeptOverRestart() {
        CheckRestart x = plain(5);
        x.check();
        x.cut(0);
        due("cut(6) when down", x.cut(6), 1);
        due("no cut by it yet", x.count(6), 1);
        x.restart(1);
        due("comes behind the restart", x.check(), 0);
        due("two cuts", x.count(6), 2);
    }

    // Promise 7

    private static void restartPutsBack() {
        CheckRestart x = new CheckRestart();
        x.cell(1);
        x.cell(2);
        x.file(5);
        x.file(5);
        x.file(5);
        x.step(4);
        long[] cells = {x.get(0), x.get(1)};
        x.check();
        x.step(7);
        x.check();
        x.step(1);
        long row11 = x.output(11);
        x.cut(0);
        due("down: cells as they were", x.get(1), row11);
        due("down: units as they were", x.count(2), 12);
        due("restart(1)", x.restart(1), 1);
        dueCounts("back", x, 2, 3, 4, 1, 0, 0, 1);
        due("cell 0", x.get(0), cells[0]);
        due("cell 1", x.get(1), cells[1]);
        due("position 0", x.position(0), 2);
        due("position 1", x.position(1), 1);
        due("position 2", x.position(2), 1);
        due("rows behind are gone", x.output(4), 0);
        dueNoRow("rows behind are gone", x, 4);
        due("checkpoint behind is gone", x.torn(2), -1);
        due("goes on", x.step(8), 8);
        due("as before", x.output(11), row11);
        due("equal", x.equal(), true);
    }

    private static void restartOrderOfRefusals() {
        CheckRestart x = plain(5);
        due("not down, none such", x.restart(9), -5);
        x.step(3);
        x.check();
        due("not down", x.restart(1), -5);
        x.cut(0);
        x.edition(8);
        x.grow(0, -4);
        due("restart(0)", x.restart(0), -1);
        due("restart(-1)", x.restart(-1), -1);
        due("restart(2)", x.restart(2), -1);
        due("restart(MIN)", x.restart(Integer.MIN_VALUE), -1);
        due("restart(MAX)", x.restart(Integer.MAX_VALUE), -1);
        due("edition ahead of length", x.restart(1), -3);
        x.edition(0);
        due("length", x.restart(1), -2);
        due("still down", x.count(4), 1);
        due("nothing changed", x.count(2), 3);
        x.grow(0, 2);
        due("just long enough", x.restart(1), 1);
        due("not down any more", x.restart(1), -5);
    }

    private static void restartTornGoesBefore() {
        CheckRestart none = plain(5);
        none.cut(3);
        none.check();
        due("no whole one", none.restart(1), -1);
        due("still there, torn", none.torn(1), 1);
        due("still down", none.count(4), 1);

        CheckRestart x = plain(9);
        x.step(1);
        x.check();
        x.step(1);
        x.edition(2);
        x.check();
        x.step(1);
        x.edition(3);
        x.cut(2);
        x.check();
        due("the edition of the whole one counts", x.restart(3), -3);
        x.edition(2);
        due("the latest whole one before", x.restart(3), 2);
        due("its units", x.count(2), 2);
        due("the torn one is gone", x.torn(3), -1);
        x.cut(2);
        x.check();
        x.edition(0);
        due("one before it by its number", x.restart(1), 1);
        due("its units", x.count(2), 1);

        CheckRestart notBegun = plain(5);
        notBegun.check();
        notBegun.cut(1);
        notBegun.check();
        due("it was not begun", notBegun.restart(2), -1);
        due("the one before", notBegun.restart(1), 1);
    }

    private static void restartShrunkFiles() {
        CheckRestart x = new CheckRestart();
        x.cell(0);
        x.file(3);
        x.file(3);
        x.step(1);
        x.check();
        x.step(3);
        x.check();
        x.cut(0);
        x.grow(1, -2);
        due("the second file shrank", x.restart(2), -2);
        due("an earlier one will do", x.restart(1), 1);
        due("lengths are not put back", x.grow(1, 0), 1);
    }

    private static void restartToldBehind() {
        CheckRestart x = new CheckRestart();
        x.cell(3);
        x.file(4);
        x.check();
        x.cell(5);
        x.file(4);
        x.step(4);
        x.grow(1, 2);
        x.cut(0);
        due("restart(1)", x.restart(1), 1);
        dueCounts("told behind", x, 2, 2, 0, 1, 0, 0, 1);
        due("cell 0", x.get(0), 3);
        due("cell 1 as at first", x.get(1), 5);
        due("position 0", x.position(0), 0);
        due("position 1 as at first", x.position(1), 0);
        due("no unit is done now", x.cell(7), 2);
        due("nor for files", x.file(1), 2);
        x.step(5);
        due("equal", x.equal(), true);
    }

    private static void restartUsesNumbersAgain() {
        CheckRestart x = plain(9);
        x.check();
        x.step(2);
        x.check();
        x.check();
        x.cut(0);
        x.restart(1);
        x.step(5);
        due("number 2 again", x.check(), 2);
        x.step(1);
        x.cut(0);
        due("restart(3)", x.restart(3), -1);
        due("restart(2)", x.restart(2), 2);
        due("units of the new one", x.count(2), 5);
    }

    // Promise 8

    private static void getCells() {
        CheckRestart x = new CheckRestart();
        dueNoCell("get(0), none", x, 0);
        x.cell(-7);
        x.cell(Long.MAX_VALUE);
        due("get(0)", x.get(0), -7);
        due("get(1)", x.get(1), Long.MAX_VALUE);
        dueNoCell("get(2)", x, 2);
        dueNoCell("get(-1)", x, -1);
        dueNoCell("get(MIN)", x, Integer.MIN_VALUE);
        dueNoCell("get(MAX)", x, Integer.MAX_VALUE);
        x.file(3);
        x.step(1);
        x.cut(0);
        due("down: get(0)", x.get(0), 993);
        dueNoCell("down: get(2)", x, 2);
    }

    // Promise 9

    private static void positions() {
        CheckRestart x = new CheckRestart();
        due("position(0), none", x.position(0), -1);
        x.file(2);
        x.file(1);
        due("at first", x.position(0), 0);
        x.step(3);
        due("position(0)", x.position(0), 2);
        due("position(1)", x.position(1), 1);
        due("position(2)", x.position(2), -1);
        due("position(-1)", x.position(-1), -1);
        due("position(MIN)", x.position(Integer.MIN_VALUE), -1);
        due("position(MAX)", x.position(Integer.MAX_VALUE), -1);
        x.cut(0);
        due("down: position(0)", x.position(0), 2);
    }

    // Promise 10

    private static void growing() {
        CheckRestart x = plain(10);
        due("grow(1)", x.grow(1, 1), -1);
        due("grow(-1)", x.grow(-1, 1), -1);
        due("none such ahead of -4", x.grow(6, 5000), -1);
        due("grow(MAX)", x.grow(Integer.MAX_VALUE, 0), -1);
        due("5 more", x.grow(0, 5), 15);
        due("7 less", x.grow(0, -7), 8);
        due("none more", x.grow(0, 0), 8);
        due("1993 more", x.grow(0, 1993), -4);
        due("9 less", x.grow(0, -9), -4);
        due("MAX more", x.grow(0, Integer.MAX_VALUE), -4);
        due("MIN more", x.grow(0, Integer.MIN_VALUE), -4);
        due("nothing changed", x.grow(0, 0), 8);
        due("1992 more", x.grow(0, 1992), 2000);
        due("2000 less", x.grow(0, -2000), 0);
        due("ended then", x.count(5), 1);
        x.grow(0, 2);
        due("not ended then", x.count(5), 0);
        due("two units", x.step(5), 2);
        x.grow(0, 1);
        due("one more", x.step(5), 1);
        due("its row", x.output(2), 1000 + 2 * 1001 + 3 * 1002);
    }

    private static void growBelowPosition() {
        CheckRestart x = plain(5);
        x.step(4);
        due("less than its position", x.grow(0, -3), 2);
        due("the position stays", x.position(0), 4);
        due("no record is left", x.count(5), 1);
        due("no unit", x.step(1), 0);
        due("check takes it so", x.check(), 1);
        x.cut(0);
        due("shorter than its position there", x.restart(1), -2);
        x.grow(0, 2);
        due("long enough", x.restart(1), 1);
        due("ended", x.count(5), 1);
        x.grow(0, 1);
        due("one record", x.step(3), 1);
    }

    // Promise 11

    private static void editions() {
        CheckRestart x = plain(5);
        due("first", x.edition(Integer.MIN_VALUE), 0);
        due("second", x.edition(Integer.MAX_VALUE), Integer.MIN_VALUE);
        x.check();
        x.cut(0);
        due("when down", x.edition(-1), Integer.MAX_VALUE);
        due("restart with another", x.restart(1), -3);
        due("back", x.edition(Integer.MAX_VALUE), -1);
        due("restart with the same", x.restart(1), 1);
        x.edition(4);
        x.cut(0);
        due("restart keeps the edition now", x.restart(1), -3);
        due("4", x.edition(4), 4);
    }

    // Promises 12 and 14

    private static void outputs() {
        CheckRestart x = new CheckRestart();
        due("output(0), none", x.output(0), 0);
        x.cell(0x7fffffff_fffffc18L);
        x.file(3);
        x.step(2);
        due("output(0)", x.output(0), 0);
        due("row(0)", x.row(0), Integer.MIN_VALUE);
        due("output(1)", x.output(1), 2002);
        due("output(2)", x.output(2), 0);
        due("output(-1)", x.output(-1), 0);
        due("output(MIN)", x.output(Integer.MIN_VALUE), 0);
        due("output(MAX)", x.output(Integer.MAX_VALUE), 0);
        x.cut(0);
        due("down: output(1)", x.output(1), 2002);

        CheckRestart low = new CheckRestart();
        low.cell(0x00000001_80000000L - 1000);
        low.file(1);
        low.step(1);
        due("lowest 32 bits have a sign", low.output(0), Integer.MIN_VALUE);
        due("highest 32 bits", low.row(0), 1);
    }

    private static void rows() {
        CheckRestart x = new CheckRestart();
        dueNoRow("row(0), none", x, 0);
        x.cell(-5000);
        x.file(4);
        x.step(3);
        due("row(0)", x.row(0), -1);
        due("row(1)", x.row(1), -1);
        due("row(2)", x.row(2), 0);
        dueNoRow("row(3)", x, 3);
        dueNoRow("row(-1)", x, -1);
        dueNoRow("row(MIN)", x, Integer.MIN_VALUE);
        dueNoRow("row(MAX)", x, Integer.MAX_VALUE);
        dueNoRow("row(5000)", x, 5000);
        x.cut(0);
        due("down: row(0)", x.row(0), -1);
        dueNoRow("down: row(3)", x, 3);
    }

    // Promise 13

    private static void tornOnes() {
        CheckRestart x = plain(3);
        due("torn(1), none", x.torn(1), -1);
        x.check();
        x.cut(6);
        x.check();
        due("torn(1)", x.torn(1), 0);
        due("torn(2)", x.torn(2), 1);
        due("torn(0)", x.torn(0), -1);
        due("torn(3)", x.torn(3), -1);
        due("torn(-1)", x.torn(-1), -1);
        due("torn(MIN)", x.torn(Integer.MIN_VALUE), -1);
        due("torn(MAX)", x.torn(Integer.MAX_VALUE), -1);
        x.restart(1);
        x.check();
        due("number 2 is whole now", x.torn(2), 0);
    }

    // Promise 15

    private static void equalAfterCuts() {
        CheckRestart x = new CheckRestart();
        x.cell(3);
        x.cell(-4);
        x.file(7);
        x.file(2);
        for (int i = 1; i <= 4; i++) {
            x.step(2);
            due("equal", x.equal(), true);
            x.check();
            x.step(1);
            x.cut(i);
            x.check();
            due("equal when down", x.equal(), true);
            due("restart", x.restart(i), i);
            due("equal after restart", x.equal(), true);
        }
    }

    private static void equalAfterGrow() {
        CheckRestart x = new CheckRestart();
        x.cell(0);
        x.file(3);
        x.file(1);
        x.step(4);
        due("unit 4 read none", x.equal(), true);
        x.grow(1, 1);
        due("unit 4 would read one", x.equal(), false);
        x.grow(1, -1);
        due("as it was", x.equal(), true);
        x.grow(0, 5);
        due("more behind does not matter", x.equal(), true);
        x.grow(0, -7);
        due("unit 3 would read none", x.equal(), false);

        CheckRestart back = new CheckRestart();
        back.cell(0);
        back.file(3);
        back.file(0);
        back.step(1);
        back.check();
        back.step(1);
        back.grow(1, 1);
        due("unit 2 would read one", back.equal(), false);
        back.cut(0);
        back.restart(1);
        due("unit 2 taken back", back.equal(), true);
        back.step(9);
        due("done with the new length", back.equal(), true);
    }

    private static void equalBehindTheEnd() {
        CheckRestart x = new CheckRestart();
        x.file(3);
        x.step(3);
        due("without cells", x.equal(), true);
        x.grow(0, -1);
        due("only two units to be had now", x.equal(), false);

        CheckRestart gap = new CheckRestart();
        gap.cell(0);
        gap.file(0);
        gap.file(4);
        gap.step(3);
        gap.grow(1, -3);
        due("ended behind unit 2 now", gap.equal(), false);
    }

    // Promise 16

    private static void counts() {
        CheckRestart x = new CheckRestart();
        x.cell(1);
        x.cell(1);
        x.cell(1);
        x.file(1);
        x.file(3);
        dueCounts("told", x, 3, 2, 0, 0, 0, 0, 0);
        x.step(2);
        x.check();
        x.cut(2);
        x.check();
        dueCounts("cut", x, 3, 2, 2, 2, 1, 0, 1);
        x.restart(2);
        x.step(1000);
        dueCounts("ended", x, 3, 2, 6, 1, 0, 1, 1);
        x.cut(0);
        x.grow(0, 9);
        dueCounts("down and grown", x, 3, 2, 6, 1, 1, 0, 2);
        due("count(-1)", x.count(-1), -1);
        due("count(7)", x.count(7), -1);
        due("count(MIN)", x.count(Integer.MIN_VALUE), -1);
        due("count(MAX)", x.count(Integer.MAX_VALUE), -1);
    }

    // The limits of all terms together

    private static void allLimitsAtOnce() {
        CheckRestart x = new CheckRestart();
        for (int i = 0; i < 12; i++) {
            x.cell(Long.MAX_VALUE - i);
        }
        for (int i = 0; i < 6; i++) {
            x.file(2000);
        }
        for (int i = 1; i <= 100; i++) {
            due("step(50)", x.step(50), 50);
            due("check", x.check(), i);
        }
        due("5000 units", x.count(2), 5000);
        due("equal", x.equal(), true);
        long last = x.output(4999);
        x.cut(0);
        due("restart(50)", x.restart(50), 50);
        for (int i = 51; i <= 99; i++) {
            x.step(50);
            due("check again", x.check(), i);
        }
        x.step(50);
        due("the same row", x.output(4999), last);
        x.cut(23);
        due("22 parts at most", x.check(), 100);
        x.cut(0);
        x.restart(99);
        x.cut(22);
        due("cut ahead of its end", x.check(), 0);
        due("torn", x.torn(100), 1);
        due("equal", x.equal(), true);
    }
}
