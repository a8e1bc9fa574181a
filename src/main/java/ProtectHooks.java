/**
 * Protection in a system of applications: faults of tasks go to hooks, one
 * level after the other; what the deciding hook does is carried out, what was
 * held is cleaned, and arrivals and accesses are checked.
 */
public final class ProtectHooks {
    private static final int UNKNOWN = -1;
    private static final int OUTSIDE = -2;
    private static final int NOT_NOW = -3;
    private static final int NO_ROOM = -4;

    // arrival() and access() answer minus a reaction too, so their refusals stand apart.
    private static final int UNKNOWN_APART = -1000;
    private static final int OUTSIDE_APART = -2000;
    private static final int NOT_NOW_APART = -3000;

    private static final int MOST_APPLICATIONS = 16;
    private static final int MOST_TASKS = 60;
    private static final int MOST_REGIONS = 8;
    private static final int MOST_RESTARTS = 10;
    private static final long MOST_SPACING = 1000000L;
    private static final long MOST_ADDRESS = 1L << 40;

    private static final int KINDS = 4;
    private static final int NUMBERS = 32;
    private static final int THINGS = KINDS * NUMBERS;
    private static final int DELICATE_KIND = 3;
    private static final int FREE = 0;

    private static final int LEVELS = 3;
    private static final int PASS_ON = 0;

    // What a hook does, from 1 on, has the number of the reaction that it asks for.
    private static final int END_TASK = 2;
    private static final int END_APPLICATION = 3;
    private static final int START_AGAIN = 4;
    private static final int SHUT_DOWN = 5;

    private static final int ACCESS_FAULT = 2;
    private static final int ARRIVAL_FAULT = 4;
    private static final int MOST_FAULT = 5;

    private static final int RUNS = 0;
    private static final int ENDED = 1;
    private static final int DOWN = 2;

    private static final int CAME = 1;
    private static final int DELAYED = 0;

    private static final int CLEANED_COLUMNS = 3;
    private static final int LOG_COLUMNS = 4;

    private final Application[] applications;
    private final Task[] tasks;
    private final int[] holders;
    private final int[] does;
    private final boolean[] fails;
    private final Book cleanings;
    private final Book lines;
    private int applicationCount;
    private int taskCount;
    private boolean up;
    private boolean delicateCleaned;

    public ProtectHooks() {
        applications = new Application[MOST_APPLICATIONS];
        tasks = new Task[MOST_TASKS];
        holders = new int[THINGS];
        does = new int[LEVELS];
        fails = new boolean[LEVELS];
        cleanings = new Book(CLEANED_COLUMNS);
        lines = new Book(LOG_COLUMNS);
        up = true;
    }

    public int application(int restarts) {
        if (restarts < 0 || restarts > MOST_RESTARTS) {
            return OUTSIDE;
        }
        if (!up) {
            return NOT_NOW;
        }
        if (applicationCount >= MOST_APPLICATIONS) {
            return NO_ROOM;
        }
        applications[applicationCount] = new Application(restarts);
        applicationCount++;
        return applicationCount;
    }

    public int task(int application, long budget) {
        Application owner = applicationNumbered(application);
        if (owner == null) {
            return UNKNOWN;
        }
        if (budget < 0 || budget > MOST_SPACING) {
            return OUTSIDE;
        }
        if (!up || owner.ended) {
            return NOT_NOW;
        }
        if (taskCount >= MOST_TASKS) {
            return NO_ROOM;
        }
        tasks[taskCount] = new Task(taskCount + 1, owner, budget);
        taskCount++;
        return taskCount;
    }

    public int region(int application, long from, long n) {
        Application owner = applicationNumbered(application);
        if (owner == null) {
            return UNKNOWN;
        }
        if (from < 0 || from > MOST_ADDRESS || n < 1 || n > MOST_ADDRESS) {
            return OUTSIDE;
        }
        if (!up) {
            return NOT_NOW;
        }
        if (owner.regionCount >= MOST_REGIONS) {
            return NO_ROOM;
        }
        owner.addRegion(from, n);
        return owner.regionCount;
    }

    public int holds(int task, int kind, int what) {
        Task holder = taskNumbered(task);
        if (holder == null) {
            return UNKNOWN;
        }
        if (kind < 0 || kind >= KINDS || what < 1 || what > NUMBERS) {
            return OUTSIDE;
        }
        int thing = kind * NUMBERS + what - 1;
        if (!canAct(holder) || holders[thing] != FREE) {
            return NOT_NOW;
        }
        holders[thing] = holder.number;
        return countHeldBy(holder);
    }

    public int fault(int task, int kind) {
        Task faulty = taskNumbered(task);
        if (faulty == null) {
            return UNKNOWN;
        }
        if (kind < 1 || kind > MOST_FAULT) {
            return OUTSIDE;
        }
        if (!canAct(faulty)) {
            return NOT_NOW;
        }
        return raise(faulty, kind);
    }

    public int cleaned(int i, int what) {
        return cleanings.tell(i, what);
    }

    public int hook(int level, int does, boolean throwsUp) {
        if (level < 0 || level >= LEVELS) {
            return UNKNOWN;
        }
        if (does < PASS_ON || does > SHUT_DOWN) {
            return OUTSIDE;
        }
        if (!up) {
            return NOT_NOW;
        }
        this.does[level] = does;
        fails[level] = throwsUp;
        return 1;
    }

    public int arrival(int task, long t) {
        Task arriving = taskNumbered(task);
        if (arriving == null) {
            return UNKNOWN_APART;
        }
        if (t < arriving.arrivedLast) {
            return OUTSIDE_APART;
        }
        if (!canAct(arriving)) {
            return NOT_NOW_APART;
        }
        boolean delayedBefore = arriving.delayed;
        boolean early = arriving.isEarlyAt(t);
        arriving.arrivedLast = t;
        arriving.delayed = early && !delayedBefore;
        if (!early) {
            arriving.hasCome = true;
            arriving.cameLast = t;
            return CAME;
        }
        return delayedBefore ? -raise(arriving, ARRIVAL_FAULT) : DELAYED;
    }

    public int trusted(int task, long address) {
        Task asking = taskNumbered(task);
        if (asking == null) {
            return UNKNOWN;
        }
        return asking.owner.hasAddress(address) ? 1 : 0;
    }

    public int access(int task, long address) {
        Task accessing = taskNumbered(task);
        if (accessing == null) {
            return UNKNOWN_APART;
        }
        if (!canAct(accessing)) {
            return NOT_NOW_APART;
        }
        return accessing.owner.hasAddress(address) ? 1 : -raise(accessing, ACCESS_FAULT);
    }

    public int state(int application) {
        Application asked = applicationNumbered(application);
        if (asked == null) {
            return UNKNOWN;
        }
        if (!up) {
            return DOWN;
        }
        return asked.ended ? ENDED : RUNS;
    }

    public int log(int i, int what) {
        return lines.tell(i, what);
    }

    private Application applicationNumbered(int number) {
        return number >= 1 && number <= MOST_APPLICATIONS ? applications[number - 1] : null;
    }

    private Task taskNumbered(int number) {
        return number >= 1 && number <= MOST_TASKS ? tasks[number - 1] : null;
    }

    private boolean canAct(Task task) {
        return up && task.alive;
    }

    private int countHeldBy(Task task) {
        int held = 0;
        for (int holder : holders) {
            if (holder == task.number) {
                held++;
            }
        }
        return held;
    }

    private int raise(Task task, int kind) {
        delicateCleaned = false;
        int level = decidingLevel();
        int reaction = carryOut(reactionAskedAt(level), task);
        lines.write(task.number, kind, level, reaction);
        return reaction;
    }

    private int decidingLevel() {
        for (int level = 0; level < LEVELS; level++) {
            if (fails[level] || does[level] != PASS_ON) {
                return level;
            }
        }
        return LEVELS;
    }

    private int reactionAskedAt(int level) {
        if (level < 0 || level >= LEVELS) {
            return END_TASK;
        }
        return fails[level] ? SHUT_DOWN : does[level];
    }

    private int carryOut(int asked, Task task) {
        if (asked == SHUT_DOWN) {
            shutDown();
        } else if (asked == END_TASK) {
            endTask(task);
        } else if (asked == END_APPLICATION || asked == START_AGAIN) {
            endTasksOf(task.owner);
        }
        // Cleaning may have shut down, whatever was asked for.
        if (!up) {
            return SHUT_DOWN;
        }
        if (asked == START_AGAIN && task.owner.restarts > 0) {
            startAgain(task.owner);
            return START_AGAIN;
        }
        if (asked == END_APPLICATION || asked == START_AGAIN) {
            task.owner.ended = true;
            return END_APPLICATION;
        }
        return asked;
    }

    private void endTasksOf(Application owner) {
        for (Task task : tasks) {
            if (up && task != null && task.owner == owner && task.alive) {
                endTask(task);
            }
        }
    }

    private void endTask(Task task) {
        task.alive = false;
        // Things lie by kinds and within a kind by numbers, which is the order of cleaning.
        for (int thing = 0; thing < THINGS && up; thing++) {
            if (holders[thing] == task.number) {
                clean(thing, task);
            }
        }
    }

    private void clean(int thing, Task task) {
        int kind = thing / NUMBERS;
        holders[thing] = FREE;
        cleanings.write(task.number, kind, thing % NUMBERS + 1, 0);
        if (kind == DELICATE_KIND) {
            if (delicateCleaned) {
                shutDown();
            }
            delicateCleaned = true;
        }
    }

    private void startAgain(Application owner) {
        owner.restarts--;
        for (Task task : tasks) {
            if (task != null && task.owner == owner) {
                task.alive = true;
            }
        }
    }

    private void shutDown() {
        up = false;
        for (Task task : tasks) {
            if (task != null) {
                task.alive = false;
            }
        }
        for (Application application : applications) {
            if (application != null) {
                application.ended = true;
            }
        }
    }

    private static final class Application {
        final long[] starts = new long[MOST_REGIONS];
        final long[] sizes = new long[MOST_REGIONS];
        int regionCount;
        int restarts;
        boolean ended;

        Application(int restarts) {
            this.restarts = restarts;
        }

        void addRegion(long start, long size) {
            if (regionCount < MOST_REGIONS) {
                starts[regionCount] = start;
                sizes[regionCount] = size;
                regionCount++;
            }
        }

        boolean hasAddress(long address) {
            for (int i = 0; i < regionCount && i < MOST_REGIONS; i++) {
                if (address >= starts[i] && address - starts[i] < sizes[i]) {
                    return true;
                }
            }
            return false;
        }
    }

    private static final class Task {
        final int number;
        final Application owner;
        final long spacing;
        boolean alive = true;
        boolean hasCome;
        boolean delayed;
        long cameLast;
        // 0 before the first arrival, so that it refuses times below 0 as well.
        long arrivedLast;

        Task(int number, Application owner, long spacing) {
            this.number = number;
            this.owner = owner;
            this.spacing = spacing;
        }

        boolean isEarlyAt(long t) {
            return hasCome && t - cameLast < spacing;
        }
    }

    /** Lines of numbers: all are counted, the first ones are kept. */
    private static final class Book {
        static final int KEPT = 500;
        static final int WIDTH = 4;

        final int columns;
        final int[] cells = new int[KEPT * WIDTH];
        int count;

        Book(int columns) {
            this.columns = columns;
        }

        void write(int first, int second, int third, int fourth) {
            if (count < KEPT) {
                int at = count * WIDTH;
                cells[at] = first;
                cells[at + 1] = second;
                cells[at + 2] = third;
                cells[at + 3] = fourth;
            }
            // A count that wrapped around would be an index below 0.
            if (count < Integer.MAX_VALUE) {
                count++;
            }
        }

        int tell(int i, int column) {
            if (i == -1 && column == 0) {
                return count;
            }
            if (i < 0 || i >= count || i >= KEPT) {
                return UNKNOWN;
            }
            if (column < 0 || column >= columns) {
                return OUTSIDE;
            }
            return cells[i * WIDTH + column];
        }
    }
}
