/**
 * A batch program that goes through files unit by unit, with checkpoints, cuts and restarts.
 */
public final class CheckRestart {
    public static final int NONE = -1;

    private static final int SHRUNK = -2;
    private static final int OTHER_EDITION = -3;
    private static final int NOT_SO = -4;
    private static final int REFUSED = -5;

    private static final int MOST_CELLS = 12;
    private static final int MOST_FILES = 6;
    private static final int MOST_RECORDS = 2000;
    private static final int MOST_UNITS = 5000;
    private static final int MOST_UNITS_A_STEP = 1000;
    private static final int MOST_CHECKPOINTS = 100;
    private static final int LAST_CUT_PART = 30;

    /** A checkpoint's parts beside cells and positions: mark, number of units, edition, end. */
    private static final int FIXED_PARTS = 4;
    private static final int NO_CUT_AHEAD = 0;

    private final Job job;
    private final Progress progress;
    /** Kept for equal() alone, so that asking makes no new objects. */
    private final Progress replay;
    /** One row a unit, so the rows that count are the first progress.units ones. */
    private final long[] rows;
    private final Checkpoints checkpoints;
    private int editionNow;
    private boolean down;
    private int cutPart;
    private int cutsThatCame;

    public CheckRestart() {
        job = new Job();
        progress = new Progress(job);
        replay = new Progress(job);
        rows = new long[MOST_UNITS];
        checkpoints = new Checkpoints();
        editionNow = 0;
        down = false;
        cutPart = NO_CUT_AHEAD;
        cutsThatCame = 0;
    }

    public int cell(long v) {
        if (isSetupOver()) {
            return REFUSED;
        }
        if (job.cellCount >= MOST_CELLS) {
            return NONE;
        }
        int number = job.cellCount;
        job.firstValues[number] = v;
        job.cellCount++;
        progress.cells[number] = v;
        return number;
    }

    public int file(int length) {
        if (length < 0 || length > MOST_RECORDS) {
            return NOT_SO;
        }
        if (isSetupOver()) {
            return REFUSED;
        }
        if (job.fileCount >= MOST_FILES) {
            return NONE;
        }
        int number = job.fileCount;
        job.lengths[number] = length;
        job.fileCount++;
        return number;
    }

    public int step(int n) {
        if (n < 0 || n > MOST_UNITS_A_STEP) {
            return NOT_SO;
        }
        if (down) {
            return REFUSED;
        }
        int done = 0;
        while (done < n && progress.units < MOST_UNITS && !progress.isEnded()) {
            int place = progress.units;
            rows[place] = progress.doUnit();
            done++;
        }
        return done;
    }

    public int check() {
        if (down) {
            return REFUSED;
        }
        if (checkpoints.begun >= MOST_CHECKPOINTS) {
            return NONE;
        }
        int parts = FIXED_PARTS + job.cellCount + job.fileCount;
        if (cutPart != NO_CUT_AHEAD && cutPart <= parts) {
            if (cutPart > 1) {
                checkpoints.addTorn();
            }
            goDown();
            return 0;
        }
        checkpoints.addWhole(progress, editionNow);
        return checkpoints.begun;
    }

    public int cut(int write) {
        if (write < 0 || write > LAST_CUT_PART) {
            return NOT_SO;
        }
        if (write == 0) {
            goDown();
        } else {
            cutPart = write;
        }
        return 1;
    }

    public int restart(int check) {
        if (!down) {
            return REFUSED;
        }
        int number = checkpoints.latestWholeUpTo(check);
        if (number == NONE) {
            return NONE;
        }
        if (checkpoints.editions[number - 1] != editionNow) {
            return OTHER_EDITION;
        }
        if (checkpoints.isPastAFilesEnd(number, job)) {
            return SHRUNK;
        }
        checkpoints.putBack(number, progress);
        checkpoints.begun = number;
        down = false;
        return number;
    }

    public long get(int cell) throws IllegalArgumentException {
        if (cell < 0 || cell >= job.cellCount) {
            throw new IllegalArgumentException("no such cell");
        }
        return progress.cells[cell];
    }

    public int position(int file) {
        return job.hasFile(file) ? progress.positions[file] : NONE;
    }

    public int grow(int file, int n) {
        if (!job.hasFile(file)) {
            return NONE;
        }
        // As long, so that the test below need not think of sums that go round.
        long length = (long) job.lengths[file] + n;
        if (length < 0 || length > MOST_RECORDS) {
            return NOT_SO;
        }
        job.lengths[file] = (int) length;
        return job.lengths[file];
    }

    public int edition(int e) {
        int before = editionNow;
        editionNow = e;
        return before;
    }

    public int output(int i) {
        return hasRow(i) ? (int) rows[i] : 0;
    }

    public int torn(int check) {
        if (!checkpoints.has(check)) {
            return NONE;
        }
        return asNumber(!checkpoints.whole[check - 1]);
    }

    public int row(int i) throws ArrayIndexOutOfBoundsException {
        if (!hasRow(i)) {
            throw new ArrayIndexOutOfBoundsException("no such row");
        }
        return (int) (rows[i] >> 32);
    }

    public boolean equal() {
        replay.startOver();
        for (int i = 0; i < progress.units; i++) {
            // Behind the end there are no units, so as many as were done cannot be had.
            if (replay.isEnded() || replay.doUnit() != rows[i]) {
                return false;
            }
        }
        return progress.hasCellsOf(replay);
    }

    public int count(int what) {
        switch (what) {
            case 0: return job.cellCount;
            case 1: return job.fileCount;
            case 2: return progress.units;
            case 3: return checkpoints.begun;
            case 4: return asNumber(down);
            case 5: return asNumber(progress.isEnded());
            case 6: return cutsThatCame;
            default: return NONE;
        }
    }

    private boolean isSetupOver() {
        return down || progress.units > 0;
    }

    /** A cut has come: a cut that was told is used up by it, or forgotten for it. */
    private void goDown() {
        down = true;
        cutPart = NO_CUT_AHEAD;
        cutsThatCame++;
    }

    private boolean hasRow(int i) {
        return i >= 0 && i < progress.units;
    }

    private static int asNumber(boolean b) {
        return b ? 1 : 0;
    }

    /** What the program was told to work on; no cut and no restart changes it. */
    private static final class Job {
        final long[] firstValues = new long[MOST_CELLS];
        final int[] lengths = new int[MOST_FILES];
        int cellCount = 0;
        int fileCount = 0;

        boolean hasFile(int f) {
            return f >= 0 && f < fileCount;
        }
    }

    /** How far the work on a job has come. */
    private static final class Progress {
        final Job job;
        final long[] cells = new long[MOST_CELLS];
        /** 0 for files not yet told, so that a file starts there without more ado. */
        final int[] positions = new int[MOST_FILES];
        int units = 0;

        Progress(Job job) {
            this.job = job;
        }

        void startOver() {
            for (int c = 0; c < job.cellCount; c++) {
                cells[c] = job.firstValues[c];
            }
            for (int f = 0; f < MOST_FILES; f++) {
                positions[f] = 0;
            }
            units = 0;
        }

        boolean isEnded() {
            for (int f = 0; f < job.fileCount; f++) {
                if (positions[f] < job.lengths[f]) {
                    return false;
                }
            }
            return true;
        }

        /** Does the next unit; answers its row of output. */
        long doUnit() {
            int turn = units;
            long record = readRecord(turn);
            units++;
            if (job.cellCount == 0) {
                return 0;
            }
            int c = turn % job.cellCount;
            cells[c] += units * record;
            return cells[c];
        }

        /** 0 when none is left: no record is 0, and a cell gets 0 more then. */
        private long readRecord(int turn) {
            if (job.fileCount == 0) {
                return 0;
            }
            int f = turn % job.fileCount;
            int r = positions[f];
            if (r >= job.lengths[f]) {
                return 0;
            }
            positions[f] = r + 1;
            return 1000L * (f + 1) + r;
        }

        boolean hasCellsOf(Progress other) {
            for (int c = 0; c < job.cellCount; c++) {
                if (cells[c] != other.cells[c]) {
                    return false;
                }
            }
            return true;
        }
    }

    /**
     * The checkpoints by number; number k lies at place k - 1. The rows are made once, since
     * numbers (and so places) are used again after a restart.
     */
    private static final class Checkpoints {
        final boolean[] whole = new boolean[MOST_CHECKPOINTS];
        final int[] editions = new int[MOST_CHECKPOINTS];
        private final int[] units = new int[MOST_CHECKPOINTS];
        private final int[] cellCounts = new int[MOST_CHECKPOINTS];
        private final long[] cells = new long[MOST_CHECKPOINTS * MOST_CELLS];
        private final int[] positions = new int[MOST_CHECKPOINTS * MOST_FILES];
        int begun = 0;

        boolean has(int number) {
            return number >= 1 && number <= begun;
        }

        /** Its parts are not kept: no restart ever reads a torn checkpoint. */
        void addTorn() {
            if (begun >= MOST_CHECKPOINTS) {
                return;
            }
            whole[begun] = false;
            begun++;
        }

        void addWhole(Progress from, int edition) {
            if (begun >= MOST_CHECKPOINTS) {
                return;
            }
            int place = begun;
            whole[place] = true;
            editions[place] = edition;
            units[place] = from.units;
            cellCounts[place] = from.job.cellCount;
            System.arraycopy(from.cells, 0, cells, place * MOST_CELLS, MOST_CELLS);
            System.arraycopy(from.positions, 0, positions, place * MOST_FILES, MOST_FILES);
            begun++;
        }

        /** NONE when there is no checkpoint of that number, or no whole one up to it. */
        int latestWholeUpTo(int number) {
            if (!has(number)) {
                return NONE;
            }
            for (int k = number; k >= 1; k--) {
                if (whole[k - 1]) {
                    return k;
                }
            }
            return NONE;
        }

        boolean isPastAFilesEnd(int number, Job job) {
            int start = (number - 1) * MOST_FILES;
            for (int f = 0; f < job.fileCount; f++) {
                if (job.lengths[f] < positions[start + f]) {
                    return true;
                }
            }
            return false;
        }

        /** Starting over first leaves cells and files told behind the checkpoint as at first. */
        void putBack(int number, Progress to) {
            int place = number - 1;
            to.startOver();
            System.arraycopy(cells, place * MOST_CELLS, to.cells, 0, cellCounts[place]);
            System.arraycopy(positions, place * MOST_FILES, to.positions, 0, MOST_FILES);
            to.units = units[place];
        }
    }
}
