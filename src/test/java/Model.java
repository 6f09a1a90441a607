import java.util.ArrayList;
import java.util.List;

/**
 * The document once more, slowly and by other means: whether a ray enters a box is asked of where it was a moment
 * before and where it is a moment behind each time that could be one, on the way that it really went.
 */
final class Model {
    // Times have denominators up to 100, so two that differ do so by 1/10000 at least.
    private static final Time MOMENT = new Time(1, 1000000);

    private final int size;
    private final List<int[]> boxes = new ArrayList<>();
    private final List<int[]> kinds = new ArrayList<>();
    private final List<Boolean> offs = new ArrayList<>();
    private final int[] brightness = new int[8];
    private final List<int[]> fan = new ArrayList<>();
    private Way latest = null;

    Model(int size) {
        this.size = size < 1 ? 1 : size > 1000 ? 1000 : size;
    }

    record Time(long above, long below) {
        Time plus(Time other) {
            return new Time(above * other.below + other.above * below, below * other.below);
        }

        Time minus(Time other) {
            return new Time(above * other.below - other.above * below, below * other.below);
        }

        int order(Time other) {
            return Long.compare(above * other.below, other.above * below);
        }

        Time lowest() {
            long a = Math.abs(above);
            long b = below;
            while (b != 0) {
                long rest = a % b;
                a = b;
                b = rest;
            }
            return new Time(above / a, below / a);
        }
    }

    /** A straight part of a way: from a time on, from a point (fractions) with a direction. */
    record Leg(Time from, Time[] point, int[] direction) {
        Time at(Time t, int axis) {
            Time gone = t.minus(from);
            return point[axis].plus(new Time(direction[axis] * gone.above(), gone.below())).lowest();
        }
    }

    record Hit(int box, int axis, Time time, Time[] place) {
    }

    static final class Way {
        final List<Leg> legs = new ArrayList<>();
        final List<Hit> hits = new ArrayList<>();
        long light = 1000000;
        int end;

        Leg leg() {
            return legs.get(legs.size() - 1);
        }

        Time latestTime() {
            return hits.isEmpty() ? new Time(0, 1) : hits.get(hits.size() - 1).time();
        }

        /** The part on which it was a moment before a time above 0. */
        Leg legBefore(Time t) {
            Leg found = legs.get(0);
            for (Leg leg : legs) {
                if (leg.from().order(t) < 0) {
                    found = leg;
                }
            }
            return found;
        }
    }

    private boolean inside(int box, Leg leg, Time t) {
        int[] b = boxes.get(box);
        for (int axis = 0; axis < 3; axis++) {
            Time p = leg.at(t, axis);
            if (p.order(new Time(b[axis], 1)) <= 0 || p.order(new Time(b[axis + 3], 1)) >= 0) {
                return false;
            }
        }
        return true;
    }

    private boolean enters(int box, Way way, Time t) {
        if (!inside(box, way.leg(), t.plus(MOMENT).lowest())) {
            return false;
        }
        if (t.above() == 0) {
            return !inside(box, way.leg(), t);
        }
        return !inside(box, way.legBefore(t), t.minus(MOMENT).lowest());
    }

    /** Each time, not before the latest hit's, at which the ray is in the plane of a face. */
    private List<Time> timesOfPlanes(int box, Way way) {
        List<Time> times = new ArrayList<>();
        Leg leg = way.leg();
        for (int i = 0; i < 6; i++) {
            int d = leg.direction()[i % 3];
            if (d != 0) {
                Time ahead = new Time(boxes.get(box)[i], 1).minus(leg.point()[i % 3]);
                Time gone = new Time(d > 0 ? ahead.above() : -ahead.above(), ahead.below() * Math.abs(d));
                Time t = leg.from().plus(gone.lowest()).lowest();
                if (t.order(way.latestTime()) >= 0) {
                    times.add(t);
                }
            }
        }
        return times;
    }

    private Hit next(Way way) {
        Hit best = null;
        for (int box = 0; box < boxes.size(); box++) {
            if (offs.get(box)) {
                continue;
            }
            for (Time t : timesOfPlanes(box, way)) {
                boolean late = t.order(way.latestTime()) > 0 || way.hits.isEmpty()
                        || box > way.hits.get(way.hits.size() - 1).box();
                if (late && enters(box, way, t) && (best == null || t.order(best.time()) < 0)) {
                    best = new Hit(box, axisOf(box, way.leg(), t), t, placeOf(way.leg(), t));
                }
            }
        }
        return best;
    }

    private int axisOf(int box, Leg leg, Time t) {
        for (int axis = 0; axis < 3; axis++) {
            int d = leg.direction()[axis];
            int face = boxes.get(box)[d > 0 ? axis : axis + 3];
            if (d != 0 && leg.at(t, axis).order(new Time(face, 1)) == 0) {
                return axis;
            }
        }
        throw new AssertionError("entered by no face");
    }

    private static Time[] placeOf(Leg leg, Time t) {
        return new Time[] {leg.at(t, 0), leg.at(t, 1), leg.at(t, 2)};
    }

    private Way follow(int[] point, int[] direction) {
        Way way = new Way();
        Time zero = new Time(0, 1);
        way.legs.add(new Leg(zero,
                new Time[] {new Time(point[0], 1), new Time(point[1], 1), new Time(point[2], 1)}, direction.clone()));
        for (int box = 0; box < boxes.size(); box++) {
            if (!offs.get(box) && kinds.get(box)[0] == 0 && inside(box, way.leg(), zero)) {
                way.end = 1;
                return way;
            }
        }
        while (true) {
            Hit hit = next(way);
            if (hit == null) {
                way.end = 0;
                return way;
            }
            way.hits.add(hit);
            int[] kind = kinds.get(hit.box());
            if (kind[0] == 0) {
                way.end = 1;
                return way;
            }
            way.light = way.light * kind[1] / 1000;
            if (kind[0] == 1) {
                int[] turned = way.leg().direction().clone();
                turned[hit.axis()] = -turned[hit.axis()];
                way.legs.add(new Leg(hit.time(), hit.place(), turned));
            }
            if (way.light == 0 || way.hits.size() == 30) {
                way.end = 2;
                return way;
            }
        }
    }

    private static void argument(boolean holds) {
        if (!holds) {
            throw new IllegalArgumentException();
        }
    }

    private static void state(boolean holds) {
        if (!holds) {
            throw new IllegalStateException();
        }
    }

    private void points(int... numbers) {
        for (int number : numbers) {
            argument(number >= -size && number <= size);
        }
    }

    private static void directions(int dx, int dy, int dz) {
        argument(dx >= -100 && dx <= 100 && dy >= -100 && dy <= 100 && dz >= -100 && dz <= 100);
        argument(!(dx == 0 && dy == 0 && dz == 0));
    }

    long box(int x0, int y0, int z0, int x1, int y1, int z1) {
        points(x0, y0, z0, x1, y1, z1);
        argument(x0 < x1);
        argument(y0 < y1);
        argument(z0 < z1);
        state(boxes.size() < 20);
        boxes.add(new int[] {x0, y0, z0, x1, y1, z1});
        kinds.add(new int[] {0, 1000});
        offs.add(false);
        return boxes.size() - 1;
    }

    long kind(int box, int kind, int share) {
        argument(box >= 0 && box < boxes.size() && kind >= 0 && kind <= 2 && share >= 0 && share <= 1000);
        return kinds.set(box, new int[] {kind, share})[0];
    }

    long off(int box, boolean is) {
        argument(box >= 0 && box < boxes.size());
        return offs.set(box, is) ? 1 : 0;
    }

    long ray(int x, int y, int z, int dx, int dy, int dz) {
        points(x, y, z);
        directions(dx, dy, dz);
        latest = follow(new int[] {x, y, z}, new int[] {dx, dy, dz});
        return latest.end;
    }

    long told(int what) {
        argument(what >= 0 && what <= 4);
        state(latest != null);
        return what == 0 ? latest.hits.size() : what == 1 ? latest.light : latest.leg().direction()[what - 2];
    }

    long hit(int k, int what) {
        argument(k >= 0 && what >= 0 && what <= 3);
        state(latest != null);
        if (k >= latest.hits.size()) {
            return -1;
        }
        Hit h = latest.hits.get(k);
        return what == 0 ? h.box() : what == 1 ? h.axis() : what == 2 ? h.time().above() : h.time().below();
    }

    long place(int k, int axis, int part) {
        argument(axis >= 0 && axis <= 2 && part >= 0 && part <= 1);
        argument(latest != null && k >= 0 && k < latest.hits.size());
        Time p = latest.hits.get(k).place()[axis];
        return part == 0 ? p.above() : p.below();
    }

    long sky(int octant, int v) {
        argument(octant >= 0 && octant <= 7 && v >= 0 && v <= 1000);
        int was = brightness[octant];
        brightness[octant] = v;
        return was;
    }

    long fan(int dx, int dy, int dz) {
        directions(dx, dy, dz);
        state(fan.size() < 40);
        fan.add(new int[] {dx, dy, dz});
        return fan.size();
    }

    long noFan() {
        int had = fan.size();
        fan.clear();
        return had;
    }

    long measure(int x, int y, int z) {
        points(x, y, z);
        long sum = 0;
        for (int[] direction : fan) {
            Way way = follow(new int[] {x, y, z}, direction);
            if (way.end == 0) {
                int[] d = way.leg().direction();
                int octant = (d[0] < 0 ? 4 : 0) | (d[1] < 0 ? 2 : 0) | (d[2] < 0 ? 1 : 0);
                sum += way.light * brightness[octant];
            }
        }
        return sum;
    }

    long best(int x, int y, int z, int columns, int rows, int step, int what) {
        points(x, y, z);
        argument(columns >= 1 && columns <= 8 && rows >= 1 && rows <= 8 && step >= 1 && step <= 100);
        argument(what >= 0 && what <= 1);
        points(x + (columns - 1) * step, y + (rows - 1) * step);
        long greatest = -1;
        int found = 0;
        for (int i = 0; i < columns * rows; i++) {
            long m = measure(x + i % columns * step, y + i / columns * step, z);
            if (m > greatest) {
                greatest = m;
                found = i;
            }
        }
        return what == 0 ? found % columns : found / columns;
    }
}
