/** Rays of light among boxes, and the light of the sky that comes to a point by a fan of them. */
public final class LightRays {
    public static final int NONE = -1;

    private static final int GREATEST_SIZE = 1000;
    private static final int GREATEST_DIRECTION = 100;
    private static final int GREATEST_SHARE = 1000;
    private static final int GREATEST_BRIGHTNESS = 1000;
    private static final int GREATEST_SIDE = 8;
    private static final int GREATEST_STEP = 100;
    private static final int FULL_LIGHT = 1000000;
    private static final int AXES = 3;
    private static final int OCTANTS = 8;
    private static final int MOST_BOXES = 20;
    private static final int MOST_HITS = 30;
    private static final int MOST_FAN = 40;
    private static final int SOLID = 0;
    private static final int MIRROR = 1;
    private static final int GLASS = 2;
    private static final int ENDS_SKY = 0;
    private static final int ENDS_SOLID = 1;
    private static final int ENDS_LOST = 2;

    private final int size;
    private final Boxes boxes;
    private final int[] brightness;
    private final int[] fanDirections;
    private int fanCount;
    private final Path latestRay;
    private boolean rayWas;
    // A path of its own for the fan, so that a measure leaves the latest ray() as it is.
    private final Path fanRay;

    public LightRays(int size) {
        this.size = Math.max(1, Math.min(GREATEST_SIZE, size));
        this.boxes = new Boxes();
        this.brightness = new int[OCTANTS];
        this.fanDirections = new int[MOST_FAN * AXES];
        this.fanCount = 0;
        this.latestRay = new Path();
        this.rayWas = false;
        this.fanRay = new Path();
    }

    public int box(int x0, int y0, int z0, int x1, int y1, int z1)
            throws IllegalArgumentException, IllegalStateException {
        demandPoint(x0, y0, z0);
        demandPoint(x1, y1, z1);
        demand(x0 < x1 && y0 < y1 && z0 < z1);
        if (boxes.count >= MOST_BOXES) {
            throw new IllegalStateException("there are 20 boxes");
        }
        return boxes.add(x0, y0, z0, x1, y1, z1);
    }

    public int kind(int box, int kind, int share) throws IllegalArgumentException {
        demandBox(box);
        demandWithin(kind, SOLID, GLASS);
        demandWithin(share, 0, GREATEST_SHARE);
        int had = boxes.kinds[box];
        boxes.kinds[box] = kind;
        boxes.shares[box] = share;
        return had;
    }

    public boolean off(int box, boolean is) throws IllegalArgumentException {
        demandBox(box);
        boolean was = boxes.offs[box];
        boxes.offs[box] = is;
        return was;
    }

    public int ray(int x, int y, int z, int dx, int dy, int dz) throws IllegalArgumentException {
        demandPoint(x, y, z);
        demandDirection(dx, dy, dz);
        latestRay.begin(x, y, z);
        latestRay.aim(dx, dy, dz);
        rayWas = true;
        return latestRay.follow(boxes);
    }

    public int told(int what) throws IllegalArgumentException, IllegalStateException {
        demandWithin(what, 0, 4);
        demandRay();
        switch (what) {
            case 0:
                return latestRay.hits;
            case 1:
                return latestRay.light;
            default:
                return latestRay.direction[what - 2];
        }
    }

    public int hit(int k, int what) throws IllegalArgumentException, IllegalStateException {
        demand(k >= 0);
        demandWithin(what, 0, 3);
        demandRay();
        if (!latestRay.hasHit(k)) {
            return NONE;
        }
        switch (what) {
            case 0:
                return latestRay.hitBoxes[k];
            case 1:
                return latestRay.hitAxes[k];
            case 2:
                return latestRay.hitAbove[k];
            default:
                return latestRay.hitBelow[k];
        }
    }

    public long place(int k, int axis, int part) throws IllegalArgumentException {
        demandWithin(axis, 0, AXES - 1);
        demandWithin(part, 0, 1);
        demand(rayWas && latestRay.hasHit(k));
        int above = latestRay.hitSpots[k * AXES + axis];
        int below = latestRay.hitBelow[k];
        int divisor = commonDivisor(above, below);
        return part == 0 ? above / divisor : below / divisor;
    }

    public int sky(int octant, int v) throws IllegalArgumentException {
        demandWithin(octant, 0, OCTANTS - 1);
        demandWithin(v, 0, GREATEST_BRIGHTNESS);
        int was = brightness[octant];
        brightness[octant] = v;
        return was;
    }

    public int fan(int dx, int dy, int dz) throws IllegalArgumentException, IllegalStateException {
        demandDirection(dx, dy, dz);
        if (fanCount >= MOST_FAN) {
            throw new IllegalStateException("the fan has 40 directions");
        }
        int first = fanCount * AXES;
        fanDirections[first] = dx;
        fanDirections[first + 1] = dy;
        fanDirections[first + 2] = dz;
        fanCount++;
        return fanCount;
    }

    public int noFan() {
        int had = fanCount;
        fanCount = 0;
        return had;
    }

    public long measure(int x, int y, int z) throws IllegalArgumentException {
        demandPoint(x, y, z);
        return measureAt(x, y, z);
    }

    public int best(int x, int y, int z, int columns, int rows, int step, int what) throws IllegalArgumentException {
        demandPoint(x, y, z);
        demandWithin(columns, 1, GREATEST_SIDE);
        demandWithin(rows, 1, GREATEST_SIDE);
        demandWithin(step, 1, GREATEST_STEP);
        demandWithin(what, 0, 1);
        demandPoint(x + (columns - 1) * step, y + (rows - 1) * step, z);
        int bestColumn = 0;
        int bestRow = 0;
        long greatest = -1;
        for (int row = 0; row < rows; row++) {
            for (int column = 0; column < columns; column++) {
                long measured = measureAt(x + column * step, y + row * step, z);
                if (measured > greatest) {
                    greatest = measured;
                    bestColumn = column;
                    bestRow = row;
                }
            }
        }
        return what == 0 ? bestColumn : bestRow;
    }

    private long measureAt(int x, int y, int z) {
        long sum = 0;
        for (int i = 0; i < fanCount; i++) {
            fanRay.begin(x, y, z);
            fanRay.aim(fanDirections[i * AXES], fanDirections[i * AXES + 1], fanDirections[i * AXES + 2]);
            if (fanRay.follow(boxes) == ENDS_SKY) {
                sum += (long) fanRay.light * brightness[fanRay.octant()];
            }
        }
        return sum;
    }

    private static void demand(boolean holds) {
        if (!holds) {
            throw new IllegalArgumentException("out of bounds");
        }
    }

    private static void demandWithin(int number, int least, int greatest) {
        demand(least <= number && number <= greatest);
    }

    private void demandPoint(int x, int y, int z) {
        demandWithin(x, -size, size);
        demandWithin(y, -size, size);
        demandWithin(z, -size, size);
    }

    private static void demandDirection(int dx, int dy, int dz) {
        demandWithin(dx, -GREATEST_DIRECTION, GREATEST_DIRECTION);
        demandWithin(dy, -GREATEST_DIRECTION, GREATEST_DIRECTION);
        demandWithin(dz, -GREATEST_DIRECTION, GREATEST_DIRECTION);
        demand(dx != 0 || dy != 0 || dz != 0);
    }

    private void demandBox(int box) {
        demand(0 <= box && box < boxes.count);
    }

    private void demandRay() {
        if (!rayWas) {
            throw new IllegalStateException("there was no ray");
        }
    }

    /** The greatest common divisor, 1 at least, so that it may divide. */
    private static int commonDivisor(int one, int other) {
        int a = Math.abs(one);
        int b = Math.abs(other);
        // Euclid's steps on two ints are fewer than 50.
        for (int i = 0; i < 64 && b != 0; i++) {
            int rest = a % b;
            a = b;
            b = rest;
        }
        return Math.max(1, a);
    }

    /** The boxes, in flat rows: what belongs to a box and an axis stands at box * AXES + axis. */
    private static final class Boxes {
        private final int[] lows = new int[MOST_BOXES * AXES];
        private final int[] highs = new int[MOST_BOXES * AXES];
        private final int[] kinds = new int[MOST_BOXES];
        private final int[] shares = new int[MOST_BOXES];
        private final boolean[] offs = new boolean[MOST_BOXES];
        private int count = 0;

        private int add(int x0, int y0, int z0, int x1, int y1, int z1) {
            int first = count * AXES;
            lows[first] = x0;
            lows[first + 1] = y0;
            lows[first + 2] = z0;
            highs[first] = x1;
            highs[first + 1] = y1;
            highs[first + 2] = z1;
            kinds[count] = SOLID;
            shares[count] = GREATEST_SHARE;
            offs[count] = false;
            count++;
            return count - 1;
        }

        private boolean anySolidRound(int[] point) {
            for (int box = 0; box < count; box++) {
                if (!offs[box] && kinds[box] == SOLID && isInside(box, point)) {
                    return true;
                }
            }
            return false;
        }

        private boolean isInside(int box, int[] point) {
            for (int axis = 0; axis < AXES; axis++) {
                int number = point[axis];
                if (number <= lows[box * AXES + axis] || number >= highs[box * AXES + axis]) {
                    return false;
                }
            }
            return true;
        }
    }

    /** That a ray enters a box by a face on an axis, at a time above / below (below is 1 at least). */
    private static final class Meeting {
        private int box;
        private int axis;
        private int above;
        private int below;

        private void set(int newBox, int newAxis, int newAbove, int newBelow) {
            box = newBox;
            axis = newAxis;
            above = newAbove;
            below = newBelow;
        }

        private void copy(Meeting other) {
            set(other.box, other.axis, other.above, other.below);
        }

        private int compareTime(Meeting other) {
            return Integer.compare(above * other.below, other.above * below);
        }
    }

    /**
     * A ray's way. Each straight part of it is kept as a line through whole numbers: the place that a ray on this
     * line would have had at time 0, and the direction. A mirror at c on an axis turns p + t * d into
     * (2 * c - p) - t * d there, so the numbers stay whole, and below 62000 with 30 hits: times 100, an int has room.
     */
    private static final class Path {
        private final int[] origin = new int[AXES];
        private final int[] direction = new int[AXES];
        // The direction that it came with to the time of the latest hit.
        private final int[] arrival = new int[AXES];
        private final int[] hitBoxes = new int[MOST_HITS];
        private final int[] hitAxes = new int[MOST_HITS];
        private final int[] hitAbove = new int[MOST_HITS];
        private final int[] hitBelow = new int[MOST_HITS];
        // Where it was at a hit, on each axis, as so many parts of which hitBelow make a whole.
        private final int[] hitSpots = new int[MOST_HITS * AXES];
        private final Meeting latest = new Meeting();
        private final Meeting next = new Meeting();
        private final Meeting trial = new Meeting();
        private int hits = 0;
        private int light = 0;

        private void begin(int x, int y, int z) {
            origin[0] = x;
            origin[1] = y;
            origin[2] = z;
            hits = 0;
            light = FULL_LIGHT;
            latest.set(NONE, NONE, 0, 1);
        }

        private void aim(int dx, int dy, int dz) {
            direction[0] = dx;
            direction[1] = dy;
            direction[2] = dz;
        }

        private boolean hasHit(int k) {
            return 0 <= k && k < hits;
        }

        private int octant() {
            return (direction[0] < 0 ? 4 : 0) + (direction[1] < 0 ? 2 : 0) + (direction[2] < 0 ? 1 : 0);
        }

        private int follow(Boxes boxes) {
            if (boxes.anySolidRound(origin)) {
                return ENDS_SOLID;
            }
            for (int i = 0; i < MOST_HITS; i++) {
                if (!findNext(boxes)) {
                    return ENDS_SKY;
                }
                keepHit();
                if (boxes.kinds[latest.box] == SOLID) {
                    return ENDS_SOLID;
                }
                light = light * boxes.shares[latest.box] / GREATEST_SHARE;
                if (boxes.kinds[latest.box] == MIRROR) {
                    turn(boxes);
                }
                if (light == 0) {
                    return ENDS_LOST;
                }
            }
            return ENDS_LOST;
        }

        private boolean findNext(Boxes boxes) {
            next.box = NONE;
            for (int box = 0; box < boxes.count; box++) {
                if (!boxes.offs[box] && crosses(boxes, box) && countsNow(boxes)
                        && (next.box == NONE || trial.compareTime(next) < 0)) {
                    next.copy(trial);
                }
            }
            return next.box != NONE;
        }

        /** Whether the line goes through the box's inside at any time; trial becomes how it enters it. */
        private boolean crosses(Boxes boxes, int box) {
            int leaveAbove = 0;
            int leaveBelow = 0;
            trial.set(box, NONE, 0, 1);
            for (int axis = 0; axis < AXES; axis++) {
                int low = boxes.lows[box * AXES + axis] - origin[axis];
                int high = boxes.highs[box * AXES + axis] - origin[axis];
                int speed = Math.abs(direction[axis]);
                if (speed == 0) {
                    if (low >= 0 || high <= 0) {
                        return false;
                    }
                    continue;
                }
                int enter = direction[axis] > 0 ? low : -high;
                int leave = direction[axis] > 0 ? high : -low;
                if (trial.axis == NONE || enter * trial.below > trial.above * speed) {
                    trial.set(box, axis, enter, speed);
                }
                if (leaveBelow == 0 || leave * leaveBelow < leaveAbove * speed) {
                    leaveAbove = leave;
                    leaveBelow = speed;
                }
            }
            return trial.axis != NONE && trial.above * leaveBelow < leaveAbove * trial.below;
        }

        private boolean countsNow(Boxes boxes) {
            int order = trial.compareTime(latest);
            if (order != 0) {
                return order > 0;
            }
            return trial.box > latest.box && !cameInside(boxes, trial.box);
        }

        /**
         * Whether it was in the box's inside just before the time of the latest hit. A mirror may throw it back from
         * a face of a box in which it was all the time: that is no entering, though the new line enters there.
         */
        private boolean cameInside(Boxes boxes, int box) {
            if (latest.above == 0) {
                return false;
            }
            for (int axis = 0; axis < AXES; axis++) {
                int spot = spotAtLatest(axis);
                int low = boxes.lows[box * AXES + axis] * latest.below;
                int high = boxes.highs[box * AXES + axis] * latest.below;
                boolean aboveLow = spot > low || spot == low && arrival[axis] < 0;
                boolean belowHigh = spot < high || spot == high && arrival[axis] > 0;
                if (!aboveLow || !belowHigh) {
                    return false;
                }
            }
            return true;
        }

        private int spotAtLatest(int axis) {
            return origin[axis] * latest.below + direction[axis] * latest.above;
        }

        /** Makes next the latest hit; the ray still has the direction that it came with. */
        private void keepHit() {
            if (next.compareTime(latest) > 0) {
                System.arraycopy(direction, 0, arrival, 0, AXES);
            }
            int divisor = commonDivisor(next.above, next.below);
            latest.set(next.box, next.axis, next.above / divisor, next.below / divisor);
            hitBoxes[hits] = latest.box;
            hitAxes[hits] = latest.axis;
            hitAbove[hits] = latest.above;
            hitBelow[hits] = latest.below;
            for (int axis = 0; axis < AXES; axis++) {
                hitSpots[hits * AXES + axis] = spotAtLatest(axis);
            }
            hits++;
        }

        private void turn(Boxes boxes) {
            int face = latest.box * AXES + latest.axis;
            int mirror = direction[latest.axis] > 0 ? boxes.lows[face] : boxes.highs[face];
            origin[latest.axis] = 2 * mirror - origin[latest.axis];
            direction[latest.axis] = -direction[latest.axis];
        }
    }
}
