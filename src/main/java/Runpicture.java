/**
 * Black and white pictures of 12 lines and 16 columns, what can be made of them and asked of
 * them, and a film of them. A line is held as a number whose binary digit c is 1 where column c is
 * black, so that most of what is done to a line is done to all its cells at once.
 *
 * <p>All rows that a call needs are made once, with the object, and used again.
 */
public final class Runpicture {
    private static final int NONE = -1;
    private static final int LINES = 12;
    private static final int COLUMNS = 16;
    private static final int CELLS = 192;
    private static final int FULL_LINE = 65535;
    private static final int MOST_PICTURES = 8;
    private static final int MOST_FRAMES = 8;
    private static final int LAST_SHAPE = 511;
    private static final int CROSS = 186;
    private static final int SQUARE = 511;
    private static final int AS_RUNS = 0;
    private static final int AS_QUARTERS = 1;
    private static final int AS_STEPS = 2;

    private final int[][] pictures = new int[MOST_PICTURES][LINES];
    private int pictureCount;
    private int knocks;
    private final Film film = new Film();
    private final Regions byFour = new Regions(false);
    private final Regions byEight = new Regions(true);
    private final Regions byEightAhead = new Regions(true);
    private final Tracer tracer = new Tracer();
    private final Packing packing = new Packing();
    private final int[] spare = new int[LINES];
    private final int[] otherSpare = new int[LINES];
    private final StringBuilder tape = new StringBuilder();

    public Runpicture() {
        pictureCount = 0;
        knocks = 0;
    }

    // ---- pictures

    public int blank() throws IllegalStateException {
        Grid.clear(demandRoom());
        return keepMade();
    }

    public int drop() throws IllegalStateException {
        if (pictureCount <= 0) {
            throw new IllegalStateException("there is no picture");
        }
        pictureCount--;
        return pictureCount;
    }

    public int put(int pic, int line, int from, int to)
            throws IndexOutOfBoundsException, IllegalArgumentException {
        int[] rows = demandLine(pic, line);
        demandSpan(from, to);
        rows[line] |= Grid.span(from, to);
        return Grid.runsIn(rows[line]);
    }

    public int take(int pic, int line, int from, int to)
            throws IndexOutOfBoundsException, IllegalArgumentException {
        int[] rows = demandLine(pic, line);
        demandSpan(from, to);
        rows[line] &= ~Grid.span(from, to);
        return Grid.runsIn(rows[line]);
    }

    public int draw(int pic, int line, int bits)
            throws IndexOutOfBoundsException, IllegalArgumentException {
        int[] rows = demandLine(pic, line);
        demandWithin(bits, 0, FULL_LINE);
        rows[line] = bits;
        return Grid.runsIn(bits);
    }

    public int copy(int pic) throws IndexOutOfBoundsException, IllegalStateException {
        int[] rows = demandPicture(pic);
        Grid.copyTo(rows, demandRoom());
        return keepMade();
    }

    public int join(int one, int other, int how)
            throws IndexOutOfBoundsException, IllegalArgumentException, IllegalStateException {
        int[] first = demandPicture(one);
        int[] second = demandPicture(other);
        demandWithin(how, 0, 3);
        Forms.joinTo(first, second, how, demandRoom());
        return keepMade();
    }

    public int not(int pic) throws IndexOutOfBoundsException, IllegalStateException {
        int[] rows = demandPicture(pic);
        Forms.turnRoundTo(rows, demandRoom());
        return keepMade();
    }

    public int mirror(int pic, int how)
            throws IndexOutOfBoundsException, IllegalArgumentException, IllegalStateException {
        int[] rows = demandPicture(pic);
        demandWithin(how, 0, 2);
        Forms.mirrorTo(rows, how != 1, how != 0, demandRoom());
        return keepMade();
    }

    public int move(int pic, int down, int right)
            throws IndexOutOfBoundsException, IllegalArgumentException, IllegalStateException {
        int[] rows = demandPicture(pic);
        demandWithin(down, -16, 16);
        demandWithin(right, -16, 16);
        Forms.moveTo(rows, down, right, demandRoom());
        return keepMade();
    }

    public int scale(int pic, int times)
            throws IndexOutOfBoundsException, IllegalArgumentException, IllegalStateException {
        int[] rows = demandPicture(pic);
        demandWithin(times, 1, 4);
        Forms.scaleTo(rows, times, demandRoom());
        return keepMade();
    }

    public int grow(int pic, int shape)
            throws IndexOutOfBoundsException, IllegalArgumentException, IllegalStateException {
        int[] rows = demandPicture(pic);
        demandWithin(shape, 0, LAST_SHAPE);
        Forms.growTo(rows, shape, demandRoom());
        return keepMade();
    }

    public int shrink(int pic, int shape)
            throws IndexOutOfBoundsException, IllegalArgumentException, IllegalStateException {
        int[] rows = demandPicture(pic);
        demandWithin(shape, 0, LAST_SHAPE);
        Forms.shrinkTo(rows, shape, demandRoom());
        return keepMade();
    }

    public int open(int pic, int shape)
            throws IndexOutOfBoundsException, IllegalArgumentException, IllegalStateException {
        int[] rows = demandPicture(pic);
        demandWithin(shape, 0, LAST_SHAPE);
        int[] made = demandRoom();
        Forms.shrinkTo(rows, shape, spare);
        Forms.growTo(spare, shape, made);
        return keepMade();
    }

    public int close(int pic, int shape)
            throws IndexOutOfBoundsException, IllegalArgumentException, IllegalStateException {
        int[] rows = demandPicture(pic);
        demandWithin(shape, 0, LAST_SHAPE);
        int[] made = demandRoom();
        Forms.growTo(rows, shape, spare);
        Forms.shrinkTo(spare, shape, made);
        return keepMade();
    }

    public int thin(int pic) throws IndexOutOfBoundsException, IllegalStateException {
        int[] rows = demandPicture(pic);
        int[] made = demandRoom();
        Grid.copyTo(rows, made);
        Thinning.thinOnce(made, spare);
        return keepMade();
    }

    public int skeleton(int pic) throws IndexOutOfBoundsException, IllegalStateException {
        int[] rows = demandPicture(pic);
        int[] made = demandRoom();
        Grid.copyTo(rows, made);
        Thinning.thinToTheEnd(made, spare);
        return keepMade();
    }

    public int part(int pic, boolean isEight, int k)
            throws IndexOutOfBoundsException, IllegalStateException {
        Regions regions = regionsOf(demandPicture(pic), isEight);
        demandIndex(k, regions.partCount);
        regions.copyPartTo(k, demandRoom());
        return keepMade();
    }

    public int fillHoles(int pic, boolean isEight)
            throws IndexOutOfBoundsException, IllegalStateException {
        Regions regions = regionsOf(demandPicture(pic), isEight);
        regions.copyFilledTo(demandRoom());
        return keepMade();
    }

    public int refill(int pic, boolean isEight)
            throws IndexOutOfBoundsException, IllegalStateException {
        int[] rows = demandPicture(pic);
        int[] made = demandRoom();
        tracer.trace(rows, isEight);
        Grid.copyTo(tracer.filled, made);
        return keepMade();
    }

    public int readBack(int pic, int how)
            throws IndexOutOfBoundsException, IllegalArgumentException, IllegalStateException {
        int[] rows = demandPicture(pic);
        demandWithin(how, 0, 2);
        int[] made = demandRoom();
        packing.write(rows, how, tracer);
        packing.readTo(how, made);
        return keepMade();
    }

    // ---- the film

    public int shoot(int pic) throws IndexOutOfBoundsException, IllegalStateException {
        int[] rows = demandPicture(pic);
        if (film.frameCount >= MOST_FRAMES) {
            throw new IllegalStateException("the film is full");
        }
        return film.keepFrame(rows, byEight, byEightAhead);
    }

    public int frame(int k) throws IndexOutOfBoundsException, IllegalStateException {
        int[] rows = demandFrame(k);
        Grid.copyTo(rows, demandRoom());
        return keepMade();
    }

    public int cut() {
        return film.removeAll();
    }

    // ---- what is asked of pictures

    public String text(int pic, int line) throws IndexOutOfBoundsException {
        int[] rows = demandLine(pic, line);
        tape.setLength(0);
        for (int column = 0; column < COLUMNS; column++) {
            tape.append(Grid.isBlack(rows, line, column) ? '#' : '.');
        }
        return tape.toString();
    }

    public String runs(int pic, int line) throws IndexOutOfBoundsException {
        int[] rows = demandLine(pic, line);
        tape.setLength(0);
        Grid.writeRuns(tape, rows[line], ' ');
        return tape.toString();
    }

    public int ofPicture(int pic, int what)
            throws IndexOutOfBoundsException, IllegalArgumentException {
        int[] rows = demandPicture(pic);
        demandWithin(what, 0, 13);
        return tellPicture(rows, what);
    }

    public int compare(int one, int other, int what)
            throws IndexOutOfBoundsException, IllegalArgumentException {
        int[] first = demandPicture(one);
        int[] second = demandPicture(other);
        demandWithin(what, 0, 3);
        switch (what) {
            case 0:
                return Grid.areAlike(first, second) ? 1 : 0;
            case 1:
                return Grid.liesIn(first, second) ? 1 : 0;
            case 2:
                return Grid.cellsUnlike(first, second);
            default:
                return Grid.linesAlike(first, second);
        }
    }

    public int partOf(int pic, boolean isEight, int line, int column)
            throws IndexOutOfBoundsException {
        int[] rows = demandPicture(pic);
        demandCell(line, column);
        return regionsOf(rows, isEight).partAt(line, column);
    }

    public int ofPart(int pic, boolean isEight, int k, int what)
            throws IndexOutOfBoundsException, IllegalArgumentException {
        Regions regions = regionsOf(demandPicture(pic), isEight);
        demandIndex(k, regions.partCount);
        demandWithin(what, 0, 6);
        switch (what) {
            case 0:
                return regions.partCells[k];
            case 1:
                return regions.partFirsts[k];
            case 2:
                return regions.holesIn(k);
            case 3:
                return regions.partHoles[k];
            case 4:
                return regions.partDepths[k];
            case 5:
                regions.copyPartTo(k, spare);
                return Grid.usedLines(spare);
            default:
                regions.copyPartTo(k, spare);
                return Integer.bitCount(Grid.usedColumns(spare));
        }
    }

    public int ofHole(int pic, boolean isEight, int k, int what)
            throws IndexOutOfBoundsException, IllegalArgumentException {
        Regions regions = regionsOf(demandPicture(pic), isEight);
        demandIndex(k, regions.holeCount);
        demandWithin(what, 0, 3);
        switch (what) {
            case 0:
                return regions.holeCells[k];
            case 1:
                return regions.holeFirsts[k];
            case 2:
                return regions.holeParts[k];
            default:
                return regions.partsIn(k);
        }
    }

    public int largest(int pic, boolean isEight) throws IndexOutOfBoundsException {
        return regionsOf(demandPicture(pic), isEight).partWithMostCells();
    }

    public String tree(int pic, boolean isEight) throws IndexOutOfBoundsException {
        writeTree(demandPicture(pic), isEight);
        return tape.toString();
    }

    public int outlines(int pic, boolean isEight) throws IndexOutOfBoundsException {
        tracer.trace(demandPicture(pic), isEight);
        return tracer.outlineCount;
    }

    public String outline(int pic, boolean isEight, int k) throws IndexOutOfBoundsException {
        tracer.trace(demandPicture(pic), isEight);
        demandIndex(k, tracer.outlineCount);
        tape.setLength(0);
        tracer.writeSteps(tape, k);
        return tape.toString();
    }

    public int ofOutline(int pic, boolean isEight, int k, int what)
            throws IndexOutOfBoundsException, IllegalArgumentException {
        tracer.trace(demandPicture(pic), isEight);
        demandIndex(k, tracer.outlineCount);
        demandWithin(what, 0, 3);
        switch (what) {
            case 0:
                return tracer.startLines[k];
            case 1:
                return tracer.startColumns[k];
            case 2:
                return tracer.lengths[k];
            default:
                return tracer.areas[k];
        }
    }

    public int nearest(int pic, int measure, int line, int column)
            throws IndexOutOfBoundsException, IllegalArgumentException {
        int[] rows = demandPicture(pic);
        demandCell(line, column);
        demandWithin(measure, 0, 2);
        return Search.leastMeasure(rows, measure, line, column);
    }

    public int nearestCell(int pic, int measure, int line, int column)
            throws IndexOutOfBoundsException, IllegalArgumentException {
        int[] rows = demandPicture(pic);
        demandCell(line, column);
        demandWithin(measure, 0, 2);
        return Search.firstNearest(rows, measure, line, column);
    }

    public int farthest(int pic, int measure)
            throws IndexOutOfBoundsException, IllegalArgumentException {
        int[] rows = demandPicture(pic);
        demandWithin(measure, 0, 2);
        return Search.firstFarthest(rows, measure);
    }

    public int places(int pic, int pattern, int faults)
            throws IndexOutOfBoundsException, IllegalArgumentException, IllegalStateException {
        int[] rows = demandPicture(pic);
        int[] patternRows = demandPicture(pattern);
        demandWithin(faults, 0, 50);
        demandBlack(patternRows);
        Search.copyPatternTo(patternRows, spare);
        return Search.countFits(rows, spare, faults);
    }

    public int placeAt(int pic, int pattern, int faults, int k)
            throws IndexOutOfBoundsException, IllegalArgumentException, IllegalStateException {
        int[] rows = demandPicture(pic);
        int[] patternRows = demandPicture(pattern);
        demandWithin(faults, 0, 50);
        if (k < 0) {
            throw new IllegalArgumentException("k is below 0");
        }
        demandBlack(patternRows);
        Search.copyPatternTo(patternRows, spare);
        return Search.fitNumber(rows, spare, faults, k);
    }

    public int sum(int pic, int top, int left, int bottom, int right)
            throws IndexOutOfBoundsException, IllegalArgumentException {
        int[] rows = demandPicture(pic);
        demandWithin(top, 0, LINES - 1);
        demandWithin(bottom, top, LINES - 1);
        demandSpan(left, right);
        return Search.cellsInWindow(rows, top, bottom, Grid.span(left, right));
    }

    public int densest(int pic, int height, int width)
            throws IndexOutOfBoundsException, IllegalArgumentException {
        int[] rows = demandPicture(pic);
        demandWithin(height, 1, LINES);
        demandWithin(width, 1, COLUMNS);
        return Search.densestWindow(rows, height, width);
    }

    public String packed(int pic, int how)
            throws IndexOutOfBoundsException, IllegalArgumentException {
        int[] rows = demandPicture(pic);
        demandWithin(how, 0, 2);
        packing.write(rows, how, tracer);
        return packing.tape.toString();
    }

    public int leastPacked(int pic) throws IndexOutOfBoundsException {
        return packing.shortestWay(demandPicture(pic), tracer);
    }

    // ---- what is asked of the film

    public int ofFilm(int what) throws IllegalArgumentException {
        demandWithin(what, 0, 4);
        return film.tell(what);
    }

    public int label(int k, int line, int column) throws IndexOutOfBoundsException {
        demandFrame(k);
        demandCell(line, column);
        return film.labelAt(k, line, column, byEight);
    }

    public String labels(int k) throws IndexOutOfBoundsException {
        demandFrame(k);
        tape.setLength(0);
        film.writeLabels(tape, k);
        return tape.toString();
    }

    // ---- the house

    public int house(int what) throws IllegalArgumentException {
        demandWithin(what, 0, 4);
        return tellHouse(what);
    }

    public int knock() {
        knocks++;
        return knocks;
    }

    public boolean isSound() {
        if (pictureCount <= 0 || pictureCount > MOST_PICTURES) {
            return true;
        }
        int[] rows = pictures[pictureCount - 1];
        return obeysTheorem(rows)
                && hasSoundOutlines(rows, false)
                && hasSoundOutlines(rows, true)
                && isReadBackAlike(rows)
                && hasSoundShapes(rows)
                && hasSoundSkeleton(rows);
    }

    public long digest() {
        long sum = 6109;
        for (int what = 0; what <= 4; what++) {
            sum = sum * 31 + tellHouse(what);
        }
        for (int pic = 0; pic < pictureCount && pic < MOST_PICTURES; pic++) {
            sum = mixPicture(sum, pictures[pic]);
        }
        for (int what = 0; what <= 4; what++) {
            sum = sum * 31 + film.tell(what);
        }
        for (int k = 0; k < film.frameCount; k++) {
            tape.setLength(0);
            film.writeLabels(tape, k);
            for (int at = 0; at < tape.length(); at++) {
                sum = sum * 31 + tape.charAt(at);
            }
        }
        return sum * 31 + (isSound() ? 1 : 0);
    }

    // ---- what the calls demand of their arguments

    private int[] demandPicture(int pic) {
        if (pic < 0 || pic >= pictureCount || pic >= MOST_PICTURES) {
            throw new IndexOutOfBoundsException("no such picture");
        }
        return pictures[pic];
    }

    private int[] demandLine(int pic, int line) {
        int[] rows = demandPicture(pic);
        if (line < 0 || line >= LINES) {
            throw new IndexOutOfBoundsException("no such line");
        }
        return rows;
    }

    private int[] demandFrame(int k) {
        if (k < 0 || k >= film.frameCount || k >= MOST_FRAMES) {
            throw new IndexOutOfBoundsException("no such frame");
        }
        return film.frames[k];
    }

    /** Gives the rows for the next picture, which is one only when keepMade() has counted it. */
    private int[] demandRoom() {
        if (pictureCount < 0 || pictureCount >= MOST_PICTURES) {
            throw new IllegalStateException("the house is full");
        }
        return pictures[pictureCount];
    }

    private static void demandCell(int line, int column) {
        if (line < 0 || line >= LINES || column < 0 || column >= COLUMNS) {
            throw new IndexOutOfBoundsException("no such cell");
        }
    }

    private static void demandIndex(int k, int count) {
        if (k < 0 || k >= count) {
            throw new IndexOutOfBoundsException("no such number");
        }
    }

    private static void demandWithin(int value, int least, int most) {
        if (value < least || value > most) {
            throw new IllegalArgumentException("a number out of its bounds");
        }
    }

    private static void demandSpan(int from, int to) {
        demandWithin(from, 0, COLUMNS - 1);
        demandWithin(to, from, COLUMNS - 1);
    }

    private static void demandBlack(int[] rows) {
        if (Grid.cellCount(rows) == 0) {
            throw new IllegalStateException("the pattern has no black cells");
        }
    }

    // ---- what several calls share

    private int keepMade() {
        int number = pictureCount;
        pictureCount++;
        return number;
    }

    private Regions regionsOf(int[] rows, boolean isEight) {
        Regions regions = isEight ? byEight : byFour;
        regions.look(rows);
        return regions;
    }

    private void writeTree(int[] rows, boolean isEight) {
        tape.setLength(0);
        Regions.writeNested(regionsOf(rows, isEight), tape, NONE, 0);
    }

    private int tellPicture(int[] rows, int what) {
        switch (what) {
            case 0:
                return Grid.cellCount(rows);
            case 1:
                return Grid.runCount(rows);
            case 2:
                return Grid.usedLines(rows);
            case 3:
                return regionsOf(rows, false).partCount;
            case 4:
                return regionsOf(rows, true).partCount;
            case 5:
                return regionsOf(rows, false).holeCount;
            case 6:
                return regionsOf(rows, true).holeCount;
            case 7:
                return Grid.firstLine(rows);
            case 8:
                return Grid.firstColumn(rows);
            case 9:
                return Grid.lastLine(rows);
            case 10:
                return Grid.lastColumn(rows);
            case 11:
                return Grid.squaresWith(rows, 1);
            case 12:
                return Grid.squaresWith(rows, 3);
            default:
                return Grid.diagonalSquares(rows);
        }
    }

    private int tellHouse(int what) {
        int cells = 0;
        int runs = 0;
        int kinds = 0;
        for (int pic = 0; pic < pictureCount && pic < MOST_PICTURES; pic++) {
            cells += Grid.cellCount(pictures[pic]);
            runs += Grid.runCount(pictures[pic]);
            kinds += isLikeEarlier(pic) ? 0 : 1;
        }
        switch (what) {
            case 0:
                return pictureCount;
            case 1:
                return cells;
            case 2:
                return runs;
            case 3:
                return kinds;
            default:
                return knocks;
        }
    }

    private boolean isLikeEarlier(int pic) {
        for (int earlier = 0; earlier < pic && pic < MOST_PICTURES; earlier++) {
            if (Grid.areAlike(pictures[earlier], pictures[pic])) {
                return true;
            }
        }
        return false;
    }

    private long mixPicture(long start, int[] rows) {
        long sum = start;
        for (int what = 0; what <= 13; what++) {
            sum = sum * 31 + tellPicture(rows, what);
        }
        for (int line = 0; line < LINES; line++) {
            sum = sum * 31 + rows[line];
        }
        sum = sum * 31 + regionsOf(rows, false).partWithMostCells();
        sum = sum * 31 + regionsOf(rows, true).partWithMostCells();
        writeTree(rows, false);
        sum = sum * 31 + tape.length();
        writeTree(rows, true);
        sum = sum * 31 + tape.length();
        sum = sum * 31 + packing.shortestWay(rows, tracer);
        for (int measure = 0; measure <= 2; measure++) {
            sum = sum * 31 + Search.firstFarthest(rows, measure);
        }
        return sum;
    }

    // ---- what must be so of a sound picture

    /**
     * The document names a theorem without telling it; this is the one about the squares that it
     * counts: 4 * (PARTS - HOLES) is Q1 - Q3 + 2 * QD by four, and Q1 - Q3 - 2 * QD by eight.
     */
    private boolean obeysTheorem(int[] rows) {
        int turns = Grid.squaresWith(rows, 1) - Grid.squaresWith(rows, 3);
        int crossings = 2 * Grid.diagonalSquares(rows);
        Regions four = regionsOf(rows, false);
        Regions eight = regionsOf(rows, true);
        return 4 * (four.partCount - four.holeCount) == turns + crossings
                && 4 * (eight.partCount - eight.holeCount) == turns - crossings;
    }

    private boolean hasSoundOutlines(int[] rows, boolean isEight) {
        Regions regions = regionsOf(rows, isEight);
        tracer.trace(rows, isEight);
        return tracer.outlineCount == regions.partCount + regions.holeCount
                && tracer.areaOfAll() == Grid.cellCount(rows)
                && Grid.areAlike(tracer.filled, rows);
    }

    private boolean isReadBackAlike(int[] rows) {
        for (int how = AS_RUNS; how <= AS_STEPS; how++) {
            packing.write(rows, how, tracer);
            packing.readTo(how, spare);
            if (!Grid.areAlike(spare, rows)) {
                return false;
            }
        }
        return true;
    }

    private boolean hasSoundShapes(int[] rows) {
        Forms.growTo(rows, CROSS, spare);
        Forms.growTo(rows, SQUARE, otherSpare);
        if (!Grid.liesIn(spare, otherSpare)) {
            return false;
        }
        Forms.shrinkTo(rows, SQUARE, spare);
        Forms.shrinkTo(rows, CROSS, otherSpare);
        return Grid.liesIn(spare, otherSpare);
    }

    private boolean hasSoundSkeleton(int[] rows) {
        byEight.look(rows);
        int parts = byEight.partCount;
        int holes = byEight.holeCount;
        Grid.copyTo(rows, spare);
        Thinning.thinToTheEnd(spare, otherSpare);
        byEight.look(spare);
        return byEight.partCount == parts && byEight.holeCount == holes;
    }

    /** What is told of the cells and the lines of a picture; all of it leaves the rows alone. */
    private static final class Grid {
        static void clear(int[] rows) {
            for (int line = 0; line < LINES; line++) {
                rows[line] = 0;
            }
        }

        static void copyTo(int[] rows, int[] target) {
            for (int line = 0; line < LINES; line++) {
                target[line] = rows[line];
            }
        }

        /** A line's cells from a column to a column, both from 0 to 15. */
        static int span(int from, int to) {
            return (2 << to) - (1 << from);
        }

        static int lineOf(int[] rows, int line) {
            return line >= 0 && line < LINES ? rows[line] : 0;
        }

        static boolean isBlack(int[] rows, int line, int column) {
            return line >= 0 && line < LINES && isSet(rows[line], column);
        }

        static boolean isSet(int bits, int column) {
            return column >= 0 && column < COLUMNS && (bits >> column & 1) == 1;
        }

        static boolean isBlackPlace(int[] rows, int place) {
            return isBlack(rows, place / COLUMNS, place % COLUMNS);
        }

        static int runsIn(int bits) {
            return Integer.bitCount(bits & ~(bits << 1));
        }

        static void writeRuns(StringBuilder tape, int bits, char between) {
            int starts = bits & ~(bits << 1);
            int ends = bits & ~(bits >> 1);
            boolean isFirst = true;
            for (int column = 0; column < COLUMNS; column++) {
                if (isSet(starts, column)) {
                    if (!isFirst) {
                        tape.append(between);
                    }
                    isFirst = false;
                    tape.append(column);
                    tape.append('-');
                }
                if (isSet(ends, column)) {
                    tape.append(column);
                }
            }
        }

        static int cellCount(int[] rows) {
            int cells = 0;
            for (int line = 0; line < LINES; line++) {
                cells += Integer.bitCount(rows[line]);
            }
            return cells;
        }

        static int runCount(int[] rows) {
            int runs = 0;
            for (int line = 0; line < LINES; line++) {
                runs += runsIn(rows[line]);
            }
            return runs;
        }

        static int usedLines(int[] rows) {
            int used = 0;
            for (int line = 0; line < LINES; line++) {
                used += rows[line] != 0 ? 1 : 0;
            }
            return used;
        }

        static int usedColumns(int[] rows) {
            int used = 0;
            for (int line = 0; line < LINES; line++) {
                used |= rows[line];
            }
            return used;
        }

        static int firstLine(int[] rows) {
            for (int line = 0; line < LINES; line++) {
                if (rows[line] != 0) {
                    return line;
                }
            }
            return NONE;
        }

        static int lastLine(int[] rows) {
            for (int line = LINES - 1; line >= 0; line--) {
                if (rows[line] != 0) {
                    return line;
                }
            }
            return NONE;
        }

        static int firstColumn(int[] rows) {
            int used = usedColumns(rows);
            for (int column = 0; column < COLUMNS; column++) {
                if (isSet(used, column)) {
                    return column;
                }
            }
            return NONE;
        }

        static int lastColumn(int[] rows) {
            int used = usedColumns(rows);
            for (int column = COLUMNS - 1; column >= 0; column--) {
                if (isSet(used, column)) {
                    return column;
                }
            }
            return NONE;
        }

        /**
         * The four cells round a corner, each a binary digit: 0 right below, 1 left below, 2 left
         * above, 3 right above. In this order digit d is the cell to the right hand of a step in
         * the direction d (0 E, 1 S, 2 W, 3 N), and the digit ahead of it that to the left hand;
         * two cells that touch with a corner alone are 5 or 10.
         */
        static int cellsRound(int[] rows, int line, int column) {
            int above = (line > 0 && line <= LINES ? rows[line - 1] : 0) << 1 >> column;
            int below = (line >= 0 && line < LINES ? rows[line] : 0) << 1 >> column;
            return below >> 1 & 1 | (below & 1) << 1 | (above & 1) << 2 | (above >> 1 & 1) << 3;
        }

        static int squaresWith(int[] rows, int blackCells) {
            int squares = 0;
            for (int line = 0; line <= LINES; line++) {
                for (int column = 0; column <= COLUMNS; column++) {
                    if (Integer.bitCount(cellsRound(rows, line, column)) == blackCells) {
                        squares++;
                    }
                }
            }
            return squares;
        }

        static int diagonalSquares(int[] rows) {
            int squares = 0;
            for (int line = 0; line <= LINES; line++) {
                for (int column = 0; column <= COLUMNS; column++) {
                    int cells = cellsRound(rows, line, column);
                    if (cells == 5 || cells == 10) {
                        squares++;
                    }
                }
            }
            return squares;
        }

        static boolean areAlike(int[] one, int[] other) {
            return linesAlike(one, other) == LINES;
        }

        static boolean liesIn(int[] one, int[] other) {
            for (int line = 0; line < LINES; line++) {
                if ((one[line] & ~other[line]) != 0) {
                    return false;
                }
            }
            return true;
        }

        static int cellsUnlike(int[] one, int[] other) {
            int cells = 0;
            for (int line = 0; line < LINES; line++) {
                cells += Integer.bitCount(one[line] ^ other[line]);
            }
            return cells;
        }

        static int linesAlike(int[] one, int[] other) {
            int alike = 0;
            for (int line = 0; line < LINES; line++) {
                alike += one[line] == other[line] ? 1 : 0;
            }
            return alike;
        }

        /** Turns round all cells of a line from a column on; a column of 16 is beyond them all. */
        static void crossAt(int[] rows, int line, int column) {
            if (line >= 0 && line < LINES && column >= 0 && column <= COLUMNS) {
                rows[line] ^= FULL_LINE << column & FULL_LINE;
            }
        }
    }

    /** Makes pictures of pictures; the rows that are filled are never those that are read. */
    private static final class Forms {
        static void joinTo(int[] one, int[] other, int how, int[] target) {
            for (int line = 0; line < LINES; line++) {
                target[line] = joinedLine(one[line], other[line], how);
            }
        }

        private static int joinedLine(int one, int other, int how) {
            switch (how) {
                case 0:
                    return one | other;
                case 1:
                    return one & other;
                case 2:
                    return one & ~other;
                default:
                    return one ^ other;
            }
        }

        static void turnRoundTo(int[] rows, int[] target) {
            for (int line = 0; line < LINES; line++) {
                target[line] = ~rows[line] & FULL_LINE;
            }
        }

        static void mirrorTo(int[] rows, boolean isSideways, boolean isUpright, int[] target) {
            for (int line = 0; line < LINES; line++) {
                int bits = rows[isUpright ? LINES - 1 - line : line];
                target[line] = isSideways ? mirroredLine(bits) : bits;
            }
        }

        private static int mirroredLine(int bits) {
            int mirrored = 0;
            for (int column = 0; column < COLUMNS; column++) {
                mirrored = mirrored << 1 | bits >> column & 1;
            }
            return mirrored;
        }

        static void moveTo(int[] rows, int down, int right, int[] target) {
            for (int line = 0; line < LINES; line++) {
                target[line] = movedLine(Grid.lineOf(rows, line - down), right);
            }
        }

        private static int movedLine(int bits, int right) {
            return right >= 0 ? bits << right & FULL_LINE : bits >> -right;
        }

        static void scaleTo(int[] rows, int times, int[] target) {
            if (times < 1) {
                return;
            }
            for (int line = 0; line < LINES; line++) {
                int bits = 0;
                for (int column = 0; column < COLUMNS; column++) {
                    if (Grid.isBlack(rows, line / times, column / times)) {
                        bits |= 1 << column;
                    }
                }
                target[line] = bits;
            }
        }

        static void growTo(int[] rows, int shape, int[] target) {
            for (int line = 0; line < LINES; line++) {
                int bits = 0;
                for (int move = 0; move < 9; move++) {
                    if ((shape >> move & 1) == 1) {
                        int origin = Grid.lineOf(rows, line - (move / 3 - 1));
                        bits |= movedLine(origin, move % 3 - 1);
                    }
                }
                target[line] = bits;
            }
        }

        static void shrinkTo(int[] rows, int shape, int[] target) {
            for (int line = 0; line < LINES; line++) {
                int bits = FULL_LINE;
                for (int move = 0; move < 9; move++) {
                    if ((shape >> move & 1) == 1) {
                        bits &= reachesBlack(rows, line + move / 3 - 1, move % 3 - 1);
                    }
                }
                target[line] = bits;
            }
        }

        /** The columns from which a move to this line goes to a black cell or beyond. */
        private static int reachesBlack(int[] rows, int line, int right) {
            if (line < 0 || line >= LINES) {
                return FULL_LINE;
            }
            int insideToo = movedLine(FULL_LINE, -right);
            return movedLine(rows[line], -right) | FULL_LINE & ~insideToo;
        }
    }

    /** Takes black cells away from the edges, as long as parts and holes stay as they are. */
    private static final class Thinning {
        static void thinToTheEnd(int[] rows, int[] edge) {
            for (int round = 0; round <= CELLS; round++) {
                if (!thinOnce(rows, edge)) {
                    return;
                }
            }
        }

        /** Answers whether a cell became white; the rows of edge are used meanwhile. */
        static boolean thinOnce(int[] rows, int[] edge) {
            boolean isChanged = false;
            for (int side = 0; side < 4; side++) {
                findEdge(rows, side, edge);
                for (int place = 0; place < CELLS; place++) {
                    if (Grid.isBlackPlace(edge, place) && mayGo(rows, place)) {
                        rows[place / COLUMNS] &= ~(1 << place % COLUMNS);
                        isChanged = true;
                    }
                }
            }
            return isChanged;
        }

        /** The black cells that are white above (side 0), below, to the left, to the right. */
        private static void findEdge(int[] rows, int side, int[] edge) {
            for (int line = 0; line < LINES; line++) {
                edge[line] = rows[line] & ~cellsBeside(rows, line, side);
            }
        }

        private static int cellsBeside(int[] rows, int line, int side) {
            switch (side) {
                case 0:
                    return Grid.lineOf(rows, line - 1);
                case 1:
                    return Grid.lineOf(rows, line + 1);
                case 2:
                    return Grid.lineOf(rows, line) << 1;
                default:
                    return Grid.lineOf(rows, line) >> 1;
            }
        }

        private static boolean mayGo(int[] rows, int place) {
            int circle = circleRound(rows, place / COLUMNS, place % COLUMNS);
            return Integer.bitCount(circle) >= 2 && sidesThatCount(circle) == 1;
        }

        /** The circle round a cell as binary digits, the least one for the cell to the right. */
        private static int circleRound(int[] rows, int line, int column) {
            int above = Grid.lineOf(rows, line - 1) << 1 >> column;
            int beside = Grid.lineOf(rows, line) << 1 >> column;
            int below = Grid.lineOf(rows, line + 1) << 1 >> column;
            int upper = (above >> 2 & 1) << 1 | (above >> 1 & 1) << 2 | (above & 1) << 3;
            int lower = (below & 1) << 5 | (below >> 1 & 1) << 6 | (below >> 2 & 1) << 7;
            return beside >> 2 & 1 | upper | (beside & 1) << 4 | lower;
        }

        private static int sidesThatCount(int circle) {
            int closed = circle | circle << 8;
            int count = 0;
            for (int side = 0; side < 8; side += 2) {
                if ((closed >> side & 1) == 0 && (closed >> side + 1 & 3) != 0) {
                    count++;
                }
            }
            return count;
        }
    }

    /** The parts and holes of the picture looked at last, for one kind of neighbours. */
    private static final class Regions {
        /** A ring of cells beyond the picture joins all that is outside: 14 lines of 18 cells. */
        private static final int WIDTH = 18;
        private static final int SIZE = 252;
        private static final int NEW_BLACK = -2;
        private static final int NEW_WHITE = -3;
        /** Of each two cells side by side, just one part has black ones and one hole white ones. */
        private static final int MOST = 96;
        /** A part round a hole with a part is four lines higher than that: none is deeper than 2. */
        private static final int DEEPEST = 12;
        /**
         * How far it is to the cells round one; each second one is a neighbour by four. From a
         * cell of the ring some of these lead to the ring's other side, which is outside, too.
         */
        private static final int[] AROUND = {1, -17, -18, -19, -1, 17, 18, 19};

        private final boolean isEight;
        private boolean hasLooked;
        private final int[] rows = new int[LINES];
        private final int[] owners = new int[SIZE];
        private final int[] queue = new int[SIZE];
        private int partCount;
        private final int[] partCells = new int[MOST];
        private final int[] partFirsts = new int[MOST];
        private final int[] partHoles = new int[MOST];
        private final int[] partDepths = new int[MOST];
        private int holeCount;
        private final int[] holeCells = new int[MOST];
        private final int[] holeFirsts = new int[MOST];
        private final int[] holeParts = new int[MOST];

        Regions(boolean isEight) {
            this.isEight = isEight;
        }

        /** Finds parts and holes; what was found is kept till another picture is looked at. */
        void look(int[] picture) {
            if (hasLooked && Grid.areAlike(rows, picture)) {
                return;
            }
            Grid.copyTo(picture, rows);
            hasLooked = true;
            partCount = 0;
            holeCount = 0;
            for (int at = 0; at < SIZE; at++) {
                boolean isBlack = Grid.isBlack(rows, at / WIDTH - 1, at % WIDTH - 1);
                owners[at] = isBlack ? NEW_BLACK : NEW_WHITE;
            }
            spread(0, NEW_WHITE, NONE);
            for (int place = 0; place < CELLS; place++) {
                int owner = ownerAt(place);
                if (owner == NEW_BLACK) {
                    beginPart(place, ringed(place));
                } else if (owner == NEW_WHITE) {
                    beginHole(place, ringed(place));
                }
            }
        }

        private static int ringed(int place) {
            return (place / COLUMNS + 1) * WIDTH + place % COLUMNS + 1;
        }

        private int ownerAt(int place) {
            int at = ringed(place);
            return at >= 0 && at < SIZE ? owners[at] : NONE;
        }

        /** As places rise, the cells above a first cell have their numbers already. */
        private int ownerAbove(int at) {
            return at >= WIDTH && at < SIZE ? owners[at - WIDTH] : NONE;
        }

        private void beginPart(int place, int at) {
            if (partCount >= MOST) {
                return;
            }
            int hole = ownerAbove(at);
            int around = hole >= 0 && hole < holeCount ? holeParts[hole] : NONE;
            boolean isInside = around >= 0 && around < partCount;
            partFirsts[partCount] = place;
            partHoles[partCount] = hole;
            partDepths[partCount] = isInside ? partDepths[around] + 1 : 0;
            partCells[partCount] = spread(at, NEW_BLACK, partCount);
            partCount++;
        }

        private void beginHole(int place, int at) {
            if (holeCount >= MOST) {
                return;
            }
            holeFirsts[holeCount] = place;
            holeParts[holeCount] = ownerAbove(at);
            holeCells[holeCount] = spread(at, NEW_WHITE, holeCount);
            holeCount++;
        }

        /** Gives a number to all cells that can be come to; answers how many they are. */
        private int spread(int start, int kind, int number) {
            if (start < 0 || start >= SIZE) {
                return 0;
            }
            int step = (kind == NEW_BLACK) == isEight ? 1 : 2;
            int end = 1;
            queue[0] = start;
            owners[start] = number;
            for (int at = 0; at < end && at < SIZE; at++) {
                for (int turn = 0; turn < 8; turn += step) {
                    int next = queue[at] + AROUND[turn];
                    if (next >= 0 && next < SIZE && owners[next] == kind && end < SIZE) {
                        owners[next] = number;
                        queue[end] = next;
                        end++;
                    }
                }
            }
            return end;
        }

        int partAt(int line, int column) {
            int place = line * COLUMNS + column;
            return Grid.isBlack(rows, line, column) ? ownerAt(place) : NONE;
        }

        int holesIn(int part) {
            int count = 0;
            for (int hole = 0; hole < holeCount; hole++) {
                count += holeParts[hole] == part ? 1 : 0;
            }
            return count;
        }

        int partsIn(int hole) {
            int count = 0;
            for (int part = 0; part < partCount; part++) {
                count += partHoles[part] == hole ? 1 : 0;
            }
            return count;
        }

        int partWithMostCells() {
            int best = NONE;
            int most = 0;
            for (int part = 0; part < partCount; part++) {
                if (partCells[part] > most) {
                    best = part;
                    most = partCells[part];
                }
            }
            return best;
        }

        void copyPartTo(int part, int[] target) {
            Grid.clear(target);
            for (int place = 0; place < CELLS; place++) {
                if (Grid.isBlackPlace(rows, place) && ownerAt(place) == part) {
                    target[place / COLUMNS] |= 1 << place % COLUMNS;
                }
            }
        }

        void copyFilledTo(int[] target) {
            Grid.copyTo(rows, target);
            for (int place = 0; place < CELLS; place++) {
                if (ownerAt(place) != NONE) {
                    target[place / COLUMNS] |= 1 << place % COLUMNS;
                }
            }
        }

        /** Writes the parts that lie in a hole (or outside), each with what lies in it. */
        private static void writeNested(Regions of, StringBuilder tape, int hole, int depth) {
            if (depth > DEEPEST) {
                return;
            }
            for (int part = 0; part < of.partCount; part++) {
                if (of.partHoles[part] == hole) {
                    tape.append('[');
                    for (int inner = 0; inner < of.holeCount; inner++) {
                        if (of.holeParts[inner] == part) {
                            tape.append('(');
                            writeNested(of, tape, inner, depth + 1);
                            tape.append(')');
                        }
                    }
                    tape.append(']');
                }
            }
        }
    }

    /** The outlines of the picture traced last. */
    private static final class Tracer {
        /** A step goes along a side of a cell: 13 * 16 lie across, 12 * 17 upright. */
        private static final int MOST_STEPS = 412;
        /** None has less than four steps. */
        private static final int MOST_OUTLINES = 103;
        private static final int EAST = 0;
        private static final int SOUTH = 1;
        private static final int WEST = 2;
        private static final char[] SIGNS = {'E', 'S', 'W', 'N'};

        private int outlineCount;
        private int stepCount;
        private final char[] steps = new char[MOST_STEPS];
        private final int[] startLines = new int[MOST_OUTLINES];
        private final int[] startColumns = new int[MOST_OUTLINES];
        private final int[] starts = new int[MOST_OUTLINES];
        private final int[] lengths = new int[MOST_OUTLINES];
        private final int[] areas = new int[MOST_OUTLINES];
        /** The steps E that are taken already, each at the cell below it. */
        private final int[] taken = new int[LINES];
        private final int[] filled = new int[LINES];

        void trace(int[] rows, boolean isEight) {
            outlineCount = 0;
            stepCount = 0;
            Grid.clear(taken);
            Grid.clear(filled);
            for (int place = 0; place < CELLS; place++) {
                int line = place / COLUMNS;
                int column = place % COLUMNS;
                int cells = Grid.cellsRound(rows, line, column);
                boolean isStart = (stepsFrom(cells) >> EAST & 1) == 1;
                if (isStart && !Grid.isBlack(taken, line, column)) {
                    follow(rows, isEight, line, column);
                }
            }
        }

        /**
         * A hole's outline can pass the corner at which it begins before it is back: it ends where
         * the next step would be its first one, as only so there are as many as parts and holes.
         */
        private void follow(int[] rows, boolean isEight, int startLine, int startColumn) {
            if (outlineCount >= MOST_OUTLINES) {
                return;
            }
            int line = startLine;
            int column = startColumn;
            int direction = EAST;
            int length = 0;
            int area = 0;
            starts[outlineCount] = stepCount;
            while (length < MOST_STEPS) {
                keepStep(direction);
                length++;
                if (direction == EAST) {
                    takeEast(line, column);
                    area -= line;
                    column++;
                } else if (direction == SOUTH) {
                    Grid.crossAt(filled, line, column);
                    line++;
                } else if (direction == WEST) {
                    area += line;
                    column--;
                } else {
                    line--;
                    Grid.crossAt(filled, line, column);
                }
                int cells = Grid.cellsRound(rows, line, column);
                direction = turned(stepsFrom(cells), direction, isEight);
                if (line == startLine && column == startColumn && direction == EAST) {
                    break;
                }
            }
            startLines[outlineCount] = startLine;
            startColumns[outlineCount] = startColumn;
            lengths[outlineCount] = length;
            areas[outlineCount] = area;
            outlineCount++;
        }

        private void keepStep(int direction) {
            if (stepCount < MOST_STEPS && direction >= 0 && direction < 4) {
                steps[stepCount] = SIGNS[direction];
                stepCount++;
            }
        }

        private void takeEast(int line, int column) {
            if (line >= 0 && line < LINES) {
                taken[line] |= 1 << column;
            }
        }

        /** The directions in which a step goes from a corner, by the cells round it. */
        private static int stepsFrom(int cells) {
            int blackToTheLeft = cells << 1 | cells >> 3;
            return cells & ~blackToTheLeft;
        }

        /** Where two steps go on, neither goes straight: the side that is tried first decides. */
        private static int turned(int steps, int direction, boolean isEight) {
            int left = direction + 3 & 3;
            int right = direction + 1 & 3;
            int preferred = isEight ? left : right;
            if ((steps >> preferred & 1) == 1) {
                return preferred;
            }
            if ((steps >> direction & 1) == 1) {
                return direction;
            }
            return isEight ? right : left;
        }

        int areaOfAll() {
            int area = 0;
            for (int outline = 0; outline < outlineCount; outline++) {
                area += areas[outline];
            }
            return area;
        }

        void writeSteps(StringBuilder tape, int outline) {
            if (outline < 0 || outline >= outlineCount) {
                return;
            }
            int start = starts[outline];
            for (int n = 0; n < lengths[outline]; n++) {
                if (start + n >= 0 && start + n < MOST_STEPS) {
                    tape.append(steps[start + n]);
                }
            }
        }
    }

    /** Nearest cells, places of a pattern, windows. */
    private static final class Search {
        private static int measured(int measure, int lines, int columns) {
            switch (measure) {
                case 0:
                    return lines + columns;
                case 1:
                    return Math.max(lines, columns);
                default:
                    return lines * lines + columns * columns;
            }
        }

        /** How many columns it is to the nearest black cell of a line that has one. */
        private static int columnsTo(int bits, int column) {
            for (int columns = 0; columns < COLUMNS; columns++) {
                if (Grid.isSet(bits, column - columns) || Grid.isSet(bits, column + columns)) {
                    return columns;
                }
            }
            return COLUMNS;
        }

        /** In each line the cell with the fewest columns between is as near as any. */
        static int leastMeasure(int[] rows, int measure, int line, int column) {
            int least = NONE;
            for (int other = 0; other < LINES; other++) {
                if (rows[other] != 0) {
                    int columns = columnsTo(rows[other], column);
                    int found = measured(measure, Math.abs(other - line), columns);
                    least = least == NONE || found < least ? found : least;
                }
            }
            return least;
        }

        static int firstNearest(int[] rows, int measure, int line, int column) {
            int least = leastMeasure(rows, measure, line, column);
            for (int place = 0; place < CELLS; place++) {
                if (Grid.isBlackPlace(rows, place)) {
                    int lines = Math.abs(place / COLUMNS - line);
                    int columns = Math.abs(place % COLUMNS - column);
                    if (measured(measure, lines, columns) == least) {
                        return place;
                    }
                }
            }
            return NONE;
        }

        static int firstFarthest(int[] rows, int measure) {
            int best = NONE;
            int most = NONE;
            for (int place = 0; place < CELLS; place++) {
                int found = leastMeasure(rows, measure, place / COLUMNS, place % COLUMNS);
                if (found > most) {
                    most = found;
                    best = place;
                }
            }
            return best;
        }

        /** Moves a pattern's box to the upper left, where its size is its last line and column. */
        static void copyPatternTo(int[] pattern, int[] target) {
            int top = Grid.firstLine(pattern);
            int left = Grid.firstColumn(pattern);
            Forms.moveTo(pattern, -Math.max(top, 0), -Math.max(left, 0), target);
        }

        private static boolean fits(int[] rows, int[] pattern, int faults, int place) {
            int line = place / COLUMNS;
            int column = place % COLUMNS;
            int lastLine = Grid.lastLine(pattern);
            int lastColumn = Grid.lastColumn(pattern);
            if (line + lastLine >= LINES || column + lastColumn >= COLUMNS || lastColumn < 0) {
                return false;
            }
            int box = Grid.span(0, lastColumn);
            int found = 0;
            for (int down = 0; down <= lastLine; down++) {
                int cells = Grid.lineOf(rows, line + down) >> column;
                found += Integer.bitCount((cells ^ Grid.lineOf(pattern, down)) & box);
            }
            return found <= faults;
        }

        static int countFits(int[] rows, int[] pattern, int faults) {
            int count = 0;
            for (int place = 0; place < CELLS; place++) {
                count += fits(rows, pattern, faults, place) ? 1 : 0;
            }
            return count;
        }

        static int fitNumber(int[] rows, int[] pattern, int faults, int k) {
            int ahead = 0;
            for (int place = 0; place < CELLS; place++) {
                if (fits(rows, pattern, faults, place)) {
                    if (ahead == k) {
                        return place;
                    }
                    ahead++;
                }
            }
            return NONE;
        }

        static int cellsInWindow(int[] rows, int top, int bottom, int columns) {
            int cells = 0;
            for (int line = top; line <= bottom; line++) {
                cells += Integer.bitCount(Grid.lineOf(rows, line) & columns);
            }
            return cells;
        }

        static int densestWindow(int[] rows, int height, int width) {
            int best = NONE;
            int most = NONE;
            for (int top = 0; top + height <= LINES; top++) {
                for (int left = 0; left + width <= COLUMNS; left++) {
                    int columns = Grid.span(left, left + width - 1);
                    int cells = cellsInWindow(rows, top, top + height - 1, columns);
                    if (cells > most) {
                        most = cells;
                        best = top * COLUMNS + left;
                    }
                }
            }
            return best;
        }
    }

    /** Writes pictures on a tape and reads them back from it. */
    private static final class Packing {
        private final StringBuilder tape = new StringBuilder();
        /** The sign of the tape that is read next. */
        private int at;

        void write(int[] rows, int how, Tracer tracer) {
            tape.setLength(0);
            if (how == AS_RUNS) {
                writeLines(rows);
            } else if (how == AS_QUARTERS) {
                writeQuarter(tape, rows, 0, 0, COLUMNS);
            } else {
                writeOutlines(rows, tracer);
            }
        }

        void readTo(int how, int[] target) {
            Grid.clear(target);
            at = 0;
            if (how == AS_RUNS) {
                readLines(target);
            } else if (how == AS_QUARTERS) {
                readQuarter(tape, 0, target, 0, 0, COLUMNS);
            } else {
                readOutlines(target);
            }
        }

        int shortestWay(int[] rows, Tracer tracer) {
            int best = AS_RUNS;
            int fewest = 0;
            for (int how = AS_RUNS; how <= AS_STEPS; how++) {
                write(rows, how, tracer);
                if (how == AS_RUNS || tape.length() < fewest) {
                    best = how;
                    fewest = tape.length();
                }
            }
            return best;
        }

        private void writeLines(int[] rows) {
            boolean isFirst = true;
            for (int line = 0; line < LINES; line++) {
                if (rows[line] != 0) {
                    if (!isFirst) {
                        tape.append(';');
                    }
                    isFirst = false;
                    tape.append(line);
                    tape.append(':');
                    Grid.writeRuns(tape, rows[line], ',');
                }
            }
        }

        private static void writeQuarter(
                StringBuilder tape, int[] rows, int line, int column, int size) {
            int cells = cellsInQuarter(rows, line, column, size);
            if (cells == 0 || cells == size * size || size <= 1) {
                tape.append(cells == 0 ? '.' : '#');
                return;
            }
            int half = size / 2;
            tape.append('(');
            writeQuarter(tape, rows, line, column, half);
            writeQuarter(tape, rows, line, column + half, half);
            writeQuarter(tape, rows, line + half, column, half);
            writeQuarter(tape, rows, line + half, column + half, half);
            tape.append(')');
        }

        private static int cellsInQuarter(int[] rows, int line, int column, int size) {
            int columns = (1 << size) - 1 << column;
            return Search.cellsInWindow(rows, line, line + size - 1, columns);
        }

        private void writeOutlines(int[] rows, Tracer tracer) {
            tracer.trace(rows, true);
            for (int k = 0; k < tracer.outlineCount; k++) {
                if (k > 0) {
                    tape.append(';');
                }
                tape.append(tracer.startLines[k]);
                tape.append(',');
                tape.append(tracer.startColumns[k]);
                tape.append(':');
                tracer.writeSteps(tape, k);
            }
        }

        private static char signAt(StringBuilder tape, int place) {
            return place >= 0 && place < tape.length() ? tape.charAt(place) : ' ';
        }

        /** Reads a number of one or two digits and the sign behind it. */
        private int readNumber() {
            int value = 0;
            for (int digits = 0; digits < 2; digits++) {
                char sign = signAt(tape, at);
                if (sign >= '0' && sign <= '9') {
                    value = value * 10 + sign - '0';
                    at++;
                }
            }
            at++;
            return value;
        }

        private void readLines(int[] target) {
            for (int n = 0; n < LINES && at < tape.length(); n++) {
                int line = readNumber();
                int bits = 0;
                for (int run = 0; run < COLUMNS; run++) {
                    int from = readNumber();
                    int to = readNumber();
                    if (from <= to && to < COLUMNS) {
                        bits |= Grid.span(from, to);
                    }
                    if (signAt(tape, at - 1) != ',') {
                        break;
                    }
                }
                if (line >= 0 && line < LINES) {
                    target[line] = bits;
                }
            }
        }

        /** Answers the place of the sign behind the quarter that begins at a place. */
        private static int readQuarter(
                StringBuilder tape, int place, int[] target, int line, int column, int size) {
            char sign = signAt(tape, place);
            if (sign == '#') {
                blacken(target, line, column, size);
            }
            if (sign != '(' || size <= 1) {
                return place + 1;
            }
            int half = size / 2;
            int next = readQuarter(tape, place + 1, target, line, column, half);
            next = readQuarter(tape, next, target, line, column + half, half);
            next = readQuarter(tape, next, target, line + half, column, half);
            next = readQuarter(tape, next, target, line + half, column + half, half);
            return next + 1;
        }

        private static void blacken(int[] target, int top, int left, int size) {
            int columns = (1 << size) - 1 << left & FULL_LINE;
            for (int line = top; line < top + size && line < LINES; line++) {
                if (line >= 0) {
                    target[line] |= columns;
                }
            }
        }

        private void readOutlines(int[] target) {
            for (int n = 0; n < CELLS && at < tape.length(); n++) {
                int line = readNumber();
                int column = readNumber();
                walk(target, line, column);
            }
        }

        /** Goes the steps from a corner on, to behind the sign that ends them. */
        private void walk(int[] target, int startLine, int startColumn) {
            int line = startLine;
            int column = startColumn;
            for (int n = 0; n <= Tracer.MOST_STEPS; n++) {
                char sign = signAt(tape, at);
                at++;
                if (sign == 'E') {
                    column++;
                } else if (sign == 'W') {
                    column--;
                } else if (sign == 'S') {
                    Grid.crossAt(target, line, column);
                    line++;
                } else if (sign == 'N') {
                    line--;
                    Grid.crossAt(target, line, column);
                } else {
                    return;
                }
            }
        }
    }

    /** The frames, and the labels of their parts by eight, which are given when one is shot. */
    private static final class Film {
        /** Of the cells of each two lines and columns, just one part by eight can have some. */
        private static final int MOST_PARTS = 48;

        private int frameCount;
        private final int[][] frames = new int[MOST_FRAMES][LINES];
        private int greatestLabel;
        private final int[] partCounts = new int[MOST_FRAMES];
        private final int[][] labelsOf = new int[MOST_FRAMES][MOST_PARTS];
        /** How many cells each part of this frame has in common with each of the frame ahead. */
        private final int[] common = new int[MOST_PARTS * MOST_PARTS];
        private final int[] white = new int[LINES];

        int keepFrame(int[] rows, Regions here, Regions ahead) {
            int number = frameCount;
            if (number < 0 || number >= MOST_FRAMES) {
                return NONE;
            }
            Grid.copyTo(rows, frames[number]);
            here.look(rows);
            partCounts[number] = Math.min(here.partCount, MOST_PARTS);
            int[] given = labelsOf[number];
            for (int part = 0; part < MOST_PARTS; part++) {
                given[part] = 0;
            }
            if (number > 0) {
                ahead.look(frames[number - 1]);
                countCommon(here, ahead);
                inheritLabels(given, labelsOf[number - 1]);
            }
            giveNewLabels(given, partCounts[number]);
            frameCount++;
            return number;
        }

        private void countCommon(Regions here, Regions ahead) {
            for (int pair = 0; pair < common.length; pair++) {
                common[pair] = 0;
            }
            for (int place = 0; place < CELLS; place++) {
                int part = here.partAt(place / COLUMNS, place % COLUMNS);
                int other = ahead.partAt(place / COLUMNS, place % COLUMNS);
                if (part >= 0 && part < MOST_PARTS && other >= 0 && other < MOST_PARTS) {
                    common[part * MOST_PARTS + other]++;
                }
            }
        }

        private void inheritLabels(int[] given, int[] labelsAhead) {
            for (int round = 0; round < MOST_PARTS; round++) {
                int pair = pairWithMost();
                if (pair < 0) {
                    return;
                }
                int part = pair / MOST_PARTS;
                int other = pair % MOST_PARTS;
                given[part] = labelsAhead[other];
                forgetPairsOf(part, other);
            }
        }

        /** The first pair with most cells in common, or NONE. */
        private int pairWithMost() {
            int best = NONE;
            int most = 0;
            for (int pair = 0; pair < common.length; pair++) {
                if (common[pair] > most) {
                    most = common[pair];
                    best = pair;
                }
            }
            return best;
        }

        /** One part has its label now and the other one's label is given: neither pairs again. */
        private void forgetPairsOf(int part, int other) {
            for (int n = 0; n < MOST_PARTS; n++) {
                common[part * MOST_PARTS + n] = 0;
                common[n * MOST_PARTS + other] = 0;
            }
        }

        private void giveNewLabels(int[] given, int count) {
            for (int part = 0; part < count && part < MOST_PARTS; part++) {
                if (given[part] == 0) {
                    greatestLabel++;
                    given[part] = greatestLabel;
                }
            }
        }

        int removeAll() {
            int count = frameCount;
            frameCount = 0;
            greatestLabel = 0;
            return count;
        }

        int tell(int what) {
            int runs = 0;
            int cells = 0;
            int most = NONE;
            int busiest = NONE;
            for (int k = 0; k < frameCount && k < MOST_FRAMES; k++) {
                int[] before = k > 0 ? frames[k - 1] : white;
                int changed = Grid.cellsUnlike(frames[k], before);
                cells += changed;
                for (int line = 0; line < LINES; line++) {
                    runs += Grid.runsIn(frames[k][line] ^ before[line]);
                }
                if (changed > most) {
                    most = changed;
                    busiest = k;
                }
            }
            switch (what) {
                case 0:
                    return frameCount;
                case 1:
                    return runs;
                case 2:
                    return cells;
                case 3:
                    return greatestLabel;
                default:
                    return busiest;
            }
        }

        int labelAt(int k, int line, int column, Regions here) {
            if (k < 0 || k >= frameCount || k >= MOST_FRAMES) {
                return 0;
            }
            here.look(frames[k]);
            int part = here.partAt(line, column);
            return part >= 0 && part < MOST_PARTS ? labelsOf[k][part] : 0;
        }

        void writeLabels(StringBuilder tape, int k) {
            if (k < 0 || k >= frameCount || k >= MOST_FRAMES) {
                return;
            }
            for (int part = 0; part < partCounts[k] && part < MOST_PARTS; part++) {
                if (part > 0) {
                    tape.append(' ');
                }
                tape.append(labelsOf[k][part]);
            }
        }
    }
}
