import java.util.Arrays;
import java.util.NoSuchElementException;

/** A town in which the hours of a week are let as rooms; ../shared/DOC.md says what each call does. */
public final class HourLets {
    public static final int NONE = -1;

    private static final int ROOMS = 168;
    private static final int HOURS = 24;
    private static final int DAYS = 7;
    private static final int TENANTS = 10;
    private static final int WANTS = 8;
    private static final int TAPE = 400;
    private static final int TEXTS = 12;
    private static final int LOG = 80;
    private static final int PAST = 12;
    private static final int MOST_COINS = 9999;
    private static final int MOST_GOODS = 99;
    private static final int MOST_PRICE = 999;
    private static final int MOST_TICKS = 400;
    private static final int NEWS_TICKS = 336;
    private static final int MOST_CHEAP = 20;
    private static final int LONGEST_ROW = 24;
    private static final int MOST_SKIPPED = 12;
    private static final int EVICTED_HOUR = 3;
    private static final int FIRST_FAIR_HOUR = 12;
    private static final int FAIR_HOURS = 6;
    private static final int NOT_TWO_OR_THREE = -2;
    private static final int FIRST_TENANT_BYTE = 97;

    private static final int BY_TAKING = 0;
    private static final int BY_SUBLET = 1;
    private static final int BY_EVICTION = 2;
    private static final int BY_SWAP = 3;
    private static final int BY_RING = 4;
    private static final int BY_DRAW = 5;

    private final int[] tape = new int[TAPE];
    private int tapeLength;
    private int fault = NONE;
    private final World world = new World();
    private final World draft = new World();
    private final World kept = new World();
    private boolean isKept;
    private final Town[] past = new Town[PAST];
    private int pastFirst;
    private int pastCount;
    private final TownText townText = new TownText(tape, draft);
    private final LawText lawText = new LawText(tape, draft.law);
    private final Streets streets = new Streets(world);
    private final Deals deals = new Deals(world);
    private final Fitting fitting = new Fitting(world);

    public HourLets() {
        for (int i = 0; i < PAST; i++) {
            past[i] = new Town();
        }
    }

    public int feed(int a, int b, int c, int d, int e) {
        if (tapeLength + 20 > TAPE) {
            return NONE;
        }
        feedNumber(a);
        feedNumber(b);
        feedNumber(c);
        feedNumber(d);
        feedNumber(e);
        return tapeLength;
    }

    public boolean end(int n) {
        if (n < 0 || n > tapeLength) {
            return false;
        }
        tapeLength = n;
        return true;
    }

    public int town() throws IllegalArgumentException, UnsupportedOperationException {
        draft.town.copyFrom(world.town);
        draft.roll.copyFrom(world.roll);
        fault = townText.readTown(useTape());
        if (fault != NONE) {
            throw new IllegalArgumentException("the text is wrong");
        }
        if (world.roll.texts >= TEXTS) {
            throw new UnsupportedOperationException("there are 12 texts");
        }
        draft.roll.texts++;
        world.town.copyFrom(draft.town);
        world.roll.copyFrom(draft.roll);
        pastCount = 0;
        return world.roll.texts;
    }

    public int law() throws IllegalArgumentException {
        fault = lawText.readLaw(useTape());
        if (fault != NONE) {
            throw new IllegalArgumentException("the text is wrong");
        }
        world.law.copyFrom(draft.law);
        pastCount = 0;
        return world.law.lines;
    }

    public int fault() {
        return fault;
    }

    public int tenant(int tenant, int what) throws IndexOutOfBoundsException, NoSuchElementException {
        needTenant(tenant);
        switch (what) {
            case 0:
                return world.town.coins[tenant];
            case 1:
                return world.roll.likesFrom[tenant];
            case 2:
                return world.roll.likesTo[tenant];
            case 3:
                return world.roll.mother[tenant];
            case 4:
                return world.town.owned[tenant];
            case 5:
                return world.livedIn(world.homeOf(tenant));
            case 6:
                return world.rentOfAll(tenant);
            case 7:
                return world.goodsOfAll(tenant);
            default:
                throw new NoSuchElementException("another what");
        }
    }

    public int room(int room, int what) throws IndexOutOfBoundsException, NoSuchElementException {
        needRoom(room);
        switch (what) {
            case 0:
                return world.town.owner[room];
            case 1:
                return world.town.livesIn(room);
            case 2:
                return world.town.goods[room];
            case 3:
                return world.roll.shut[room];
            case 4:
                return world.town.livesIn(before(room));
            case 5:
                return world.town.livesIn(after(room));
            default:
                throw new NoSuchElementException("another what");
        }
    }

    public int rule(int tenant, int room, int what) throws IndexOutOfBoundsException, NoSuchElementException {
        needTenant(tenant);
        needRoom(room);
        if (what < 0 || what > 2) {
            throw new NoSuchElementException("another what");
        }
        if (world.isChild(tenant)) {
            return 0;
        }
        if (what == 0) {
            return world.isBarred(tenant, room) ? 1 : 0;
        }
        return what == 1 ? world.rentOf(tenant, room) : world.valueOf(tenant, room);
    }

    public int roomOf(int tenant, int k, boolean lives) throws IndexOutOfBoundsException {
        needTenant(tenant);
        int who = lives ? world.homeOf(tenant) : tenant;
        int left = k;
        for (int room = 0; room < ROOMS && left >= 0; room++) {
            int has = lives ? world.town.livesIn(room) : world.town.owner[room];
            if (has == who) {
                if (left == 0) {
                    return room;
                }
                left--;
            }
        }
        return NONE;
    }

    public int take(int tenant, int room) throws IndexOutOfBoundsException, IllegalStateException {
        needTenant(tenant);
        needRoom(room);
        needAllowed(world.mayTake(tenant, room, world.town.coins[tenant]));
        remember();
        return world.giveTo(tenant, room, BY_TAKING);
    }

    public int leave(int room) throws IndexOutOfBoundsException, IllegalStateException {
        needRoom(room);
        int owner = world.town.owner[room];
        needAllowed(owner != NONE);
        remember();
        world.town.free(room);
        return owner;
    }

    public int sublet(int room, int tenant, int price)
            throws IndexOutOfBoundsException, IllegalArgumentException, IllegalStateException {
        needRoom(room);
        needTenant(tenant);
        needNumber(price, 0, MOST_PRICE);
        needAllowed(world.maySublet(room, tenant, price));
        remember();
        world.subletTo(room, tenant, price);
        return world.town.owner[room];
    }

    public int ends(int room) throws IndexOutOfBoundsException, IllegalStateException {
        needRoom(room);
        int who = world.town.sub[room];
        needAllowed(who != NONE);
        remember();
        world.town.sub[room] = NONE;
        return who;
    }

    public int evict(int room) throws IndexOutOfBoundsException, IllegalStateException {
        needRoom(room);
        needAllowed(world.town.livesIn(room) != NONE);
        remember();
        if (world.town.sub[room] != NONE) {
            world.town.sub[room] = NONE;
            return NONE;
        }
        return world.putOut(room);
    }

    public int carry(int tenant, int from, int to, int n)
            throws IndexOutOfBoundsException, IllegalArgumentException, IllegalStateException {
        needTenant(tenant);
        needRoom(from);
        needRoom(to);
        needNumber(n, 1, MOST_GOODS);
        needTwo(from, to);
        needAllowed(world.town.livesIn(from) == tenant && world.town.livesIn(to) == tenant);
        remember();
        int[] goods = world.town.goods;
        int carried = Math.min(n, Math.min(goods[from], MOST_GOODS - goods[to]));
        goods[from] -= carried;
        goods[to] += carried;
        return carried;
    }

    public int swap(int room, int other)
            throws IndexOutOfBoundsException, IllegalArgumentException, IllegalStateException {
        needRoom(room);
        needRoom(other);
        needTwo(room, other);
        needAllowed(world.maySwap(room, other));
        remember();
        int one = world.town.owner[room];
        int two = world.town.owner[other];
        world.town.comeTo(room, two, BY_SWAP);
        world.town.comeTo(other, one, BY_SWAP);
        return two;
    }

    public int ticks(int n) throws IllegalArgumentException {
        needNumber(n, 1, MOST_TICKS);
        remember();
        int till = world.town.till;
        for (int i = 0; i < n; i++) {
            world.tickOn();
        }
        return world.town.till - till;
    }

    public int neighbours(int one, int other, boolean first) throws IndexOutOfBoundsException {
        needTenant(one);
        needTenant(other);
        return streets.sideBySide(world.homeOf(one), world.homeOf(other), first);
    }

    public int run(int tenant, boolean begin) throws IndexOutOfBoundsException {
        needTenant(tenant);
        return streets.longestRow(world.homeOf(tenant), begin);
    }

    public int empty(boolean begin) {
        return streets.longestRow(NONE, begin);
    }

    public int wedding(int one, int other) throws IndexOutOfBoundsException, IllegalArgumentException {
        needTenant(one);
        needTenant(other);
        needTwo(one, other);
        return streets.firstMeeting(world.homeOf(one), world.homeOf(other));
    }

    public int court(int tenants, boolean begin) {
        return streets.rowOfDifferent(world.grownUps(tenants), begin);
    }

    public int cheap(int tenant, int n, int k) throws IndexOutOfBoundsException, IllegalArgumentException {
        needTenant(tenant);
        needNumber(n, 1, MOST_CHEAP);
        needNumber(k, NONE, n - 1);
        return deals.cheapest(tenant, n, k);
    }

    public int fitted(boolean all) {
        int rooms = fitting.fillWants();
        if (!all) {
            return rooms;
        }
        return rooms == world.roll.wantedRooms() ? 1 : 0;
    }

    public int given(int room) throws IndexOutOfBoundsException {
        needRoom(room);
        fitting.fillWants();
        return fitting.wantOf(room);
    }

    public int envies(int tenant) throws IndexOutOfBoundsException {
        needTenant(tenant);
        return deals.enviedBy(tenant);
    }

    public int fair(int day, int tenants, int hour) throws IllegalArgumentException {
        needNumber(day, 0, DAYS - 1);
        if (hour != NONE) {
            needNumber(hour, FIRST_FAIR_HOUR, FIRST_FAIR_HOUR + FAIR_HOURS - 1);
        }
        if (!deals.seat(world.grownUps(tenants))) {
            return NOT_TWO_OR_THREE;
        }
        int ways = deals.dealFairly(day);
        if (hour == NONE) {
            return ways;
        }
        return ways == 0 ? NONE : deals.dealtTo(hour - FIRST_FAIR_HOUR);
    }

    public int ring(int tenant, int k) throws IndexOutOfBoundsException, IllegalArgumentException {
        needTenant(tenant);
        if (k < NONE) {
            throw new IllegalArgumentException("k is below NONE");
        }
        int length = deals.findRing(tenant);
        if (length == 0 || k >= length) {
            return NONE;
        }
        return k == NONE ? length : deals.pointedBy(k);
    }

    public int turn(int tenant) throws IndexOutOfBoundsException, IllegalStateException {
        needTenant(tenant);
        int length = deals.findRing(tenant);
        needAllowed(length > 0);
        remember();
        deals.turnRing(length);
        return length;
    }

    public int soonest(int from, int to) throws IndexOutOfBoundsException {
        needTenant(from);
        needTenant(to);
        return streets.ticksToHear(world.homeOf(from), world.homeOf(to));
    }

    public int heard(int from, int n) throws IndexOutOfBoundsException, IllegalArgumentException {
        needTenant(from);
        needNumber(n, 0, NEWS_TICKS);
        return streets.knowBehind(world.homeOf(from), n);
    }

    public int roomsFor(int tenant, int n, boolean begin)
            throws IndexOutOfBoundsException, IllegalArgumentException {
        needTenant(tenant);
        needNumber(n, 1, LONGEST_ROW);
        return streets.fewestEvictions(tenant, n, begin);
    }

    public int thieves() throws IllegalArgumentException {
        int length = useTape();
        needAllRooms(length, 1);
        if (length == 0) {
            throw new IllegalArgumentException("one room at least");
        }
        int suspects = world.grownUps(-1);
        for (int i = 0; i < length; i++) {
            suspects &= streets.nearBy(tape[i]);
        }
        return suspects;
    }

    public int seen() throws IllegalArgumentException {
        int length = useTape();
        if (length % 2 != 0) {
            throw new IllegalArgumentException("each time has two bytes");
        }
        needAllRooms(length, 2);
        for (int i = 1; i < length; i += 2) {
            needNumber(tape[i] - FIRST_TENANT_BYTE, 0, world.roll.tenants - 1);
        }
        for (int i = 0; i < length; i += 2) {
            if (world.town.livesIn(tape[i]) != world.homeOf(tape[i + 1] - FIRST_TENANT_BYTE)) {
                return i / 2;
            }
        }
        return NONE;
    }

    public int changed(int room, int n, int tenant) throws IndexOutOfBoundsException, IllegalArgumentException {
        needRoom(room);
        if (tenant != NONE) {
            needTenant(tenant);
        }
        needNumber(n, 1, MOST_SKIPPED);
        if (tenant != NONE) {
            return streets.livedInRow(world.homeOf(tenant), room, n);
        }
        return streets.mostInRow(room, n);
    }

    public int log(int ago, int what) throws NoSuchElementException {
        if (what < 0 || what > 3) {
            throw new NoSuchElementException("another what");
        }
        if (ago < 0 || ago >= world.town.logCount) {
            return NONE;
        }
        int entry = world.town.entryAgo(ago);
        switch (what) {
            case 0:
                return Town.weekOf(entry);
            case 1:
                return Town.roomIn(entry);
            case 2:
                return Town.whoOf(entry);
            default:
                return Town.howOf(entry);
        }
    }

    public int led(int room, int k) throws IndexOutOfBoundsException, IllegalArgumentException {
        needRoom(room);
        if (k < 0) {
            throw new IllegalArgumentException("k is below 0");
        }
        int left = k;
        for (int ago = 0; ago < world.town.logCount; ago++) {
            int entry = world.town.entryAgo(ago);
            if (Town.roomIn(entry) == room) {
                if (left == 0) {
                    return Town.whoOf(entry);
                }
                left--;
            }
        }
        return NONE;
    }

    public int seed(int n) {
        int was = world.town.seed;
        world.town.seed = n;
        return was;
    }

    public boolean undo() {
        if (pastCount == 0) {
            return false;
        }
        pastCount--;
        world.town.copyFrom(past[(pastFirst + pastCount) % PAST]);
        return true;
    }

    public void image() {
        kept.copyFrom(world);
        isKept = true;
    }

    public boolean back() {
        if (!isKept) {
            return false;
        }
        world.copyFrom(kept);
        pastCount = 0;
        return true;
    }

    public int count(int what) {
        switch (what) {
            case 0:
                return world.roll.tenants;
            case 1:
                return world.roll.texts;
            case 2:
                return world.law.lines;
            case 3:
                return world.town.week;
            case 4:
                return world.town.now;
            case 5:
                return world.town.till;
            case 6:
                return sumOf(world.town.coins);
            case 7:
                return world.roll.told;
            case 8:
                return world.livedIn(NONE);
            case 9:
                return world.subletRooms();
            case 10:
                return sumOf(world.town.goods);
            case 11:
                return world.roll.wants;
            case 12:
                return world.roll.chance;
            case 13:
                return world.town.logCount;
            case 14:
                return sumOf(world.roll.shut);
            case 15:
                return pastCount;
            default:
                return NONE;
        }
    }

    private void feedNumber(int number) {
        for (int shift = 24; shift >= 0; shift -= 8) {
            if (tapeLength < TAPE) {
                tape[tapeLength] = number >>> shift & 255;
                tapeLength++;
            }
        }
    }

    private int useTape() {
        int length = tapeLength;
        tapeLength = 0;
        return length;
    }

    /** Keeps the town as it is ahead of an act; the oldest one is forgotten if there are too many. */
    private void remember() {
        if (pastCount == PAST) {
            pastFirst = (pastFirst + 1) % PAST;
            pastCount--;
        }
        past[(pastFirst + pastCount) % PAST].copyFrom(world.town);
        pastCount++;
    }

    private void needTenant(int tenant) {
        if (tenant < 0 || tenant >= world.roll.tenants) {
            throw new IndexOutOfBoundsException("no such tenant");
        }
    }

    private static void needRoom(int room) {
        if (!isRoom(room)) {
            throw new IndexOutOfBoundsException("no such room");
        }
    }

    private static void needNumber(int n, int least, int most) {
        if (n < least || n > most) {
            throw new IllegalArgumentException("a number is none");
        }
    }

    private static void needTwo(int one, int other) {
        if (one == other) {
            throw new IllegalArgumentException("both are one");
        }
    }

    private static void needAllowed(boolean allowed) {
        if (!allowed) {
            throw new IllegalStateException("it is refused");
        }
    }

    private void needAllRooms(int length, int step) {
        for (int i = 0; i < length && i < TAPE; i += step) {
            needNumber(tape[i], 0, ROOMS - 1);
        }
    }

    private static boolean isRoom(int room) {
        return room >= 0 && room < ROOMS;
    }

    private static int after(int room) {
        return room + 1 < ROOMS ? room + 1 : 0;
    }

    private static int before(int room) {
        return room > 0 ? room - 1 : ROOMS - 1;
    }

    private static int sumOf(int[] numbers) {
        int sum = 0;
        for (int i = 0; i < numbers.length; i++) {
            sum += numbers[i];
        }
        return sum;
    }

    /** What acts and ticks change; apart from the rest, as one is kept for each act that can be undone. */
    private static final class Town {
        private final int[] owner = new int[ROOMS];
        private final int[] sub = new int[ROOMS];
        private final int[] goods = new int[ROOMS];
        private final int[] coins = new int[TENANTS];
        private final int[] owned = new int[TENANTS];
        private final int[] log = new int[LOG];
        private int logNext;
        private int logCount;
        private int till;
        private int week;
        private int now;
        private int seed = 1;

        private Town() {
            Arrays.fill(owner, NONE);
            Arrays.fill(sub, NONE);
        }

        private void copyFrom(Town other) {
            System.arraycopy(other.owner, 0, owner, 0, ROOMS);
            System.arraycopy(other.sub, 0, sub, 0, ROOMS);
            System.arraycopy(other.goods, 0, goods, 0, ROOMS);
            System.arraycopy(other.coins, 0, coins, 0, TENANTS);
            System.arraycopy(other.owned, 0, owned, 0, TENANTS);
            System.arraycopy(other.log, 0, log, 0, LOG);
            logNext = other.logNext;
            logCount = other.logCount;
            till = other.till;
            week = other.week;
            now = other.now;
            seed = other.seed;
        }

        private int livesIn(int room) {
            return sub[room] != NONE ? sub[room] : owner[room];
        }

        private void setOwner(int room, int tenant) {
            free(room);
            owner[room] = tenant;
            owned[tenant]++;
        }

        private void free(int room) {
            if (owner[room] != NONE) {
                owned[owner[room]]--;
            }
            owner[room] = NONE;
            sub[room] = NONE;
        }

        private void comeTo(int room, int tenant, int how) {
            setOwner(room, tenant);
            enter(room, tenant, how);
        }

        /** An entry is one number, so that a town stays small: it is kept many times. */
        private void enter(int room, int tenant, int how) {
            log[logNext] = week << 15 | room << 7 | tenant << 3 | how;
            logNext = (logNext + 1) % LOG;
            logCount = Math.min(logCount + 1, LOG);
        }

        private int entryAgo(int ago) {
            return log[Math.floorMod(logNext - 1 - ago, LOG)];
        }

        private static int weekOf(int entry) {
            return entry >>> 15;
        }

        private static int roomIn(int entry) {
            return entry >>> 7 & 255;
        }

        private static int whoOf(int entry) {
            return entry >>> 3 & 15;
        }

        private static int howOf(int entry) {
            return entry & 7;
        }

        private int draw() {
            seed = 1103515245 * seed + 12345;
            return seed >>> 16 & 32767;
        }
    }

    /** What texts of the town alone change. */
    private static final class Roll {
        private final int[] likesFrom = new int[TENANTS];
        private final int[] likesTo = new int[TENANTS];
        private final int[] mother = new int[TENANTS];
        private final int[] shut = new int[ROOMS];
        private final int[] wantOf = new int[WANTS];
        private final int[] wantRooms = new int[WANTS];
        private final int[] wantFrom = new int[WANTS];
        private final int[] wantTo = new int[WANTS];
        private int tenants;
        private int wants;
        private int chance;
        private int texts;
        private int told;

        private void copyFrom(Roll other) {
            System.arraycopy(other.likesFrom, 0, likesFrom, 0, TENANTS);
            System.arraycopy(other.likesTo, 0, likesTo, 0, TENANTS);
            System.arraycopy(other.mother, 0, mother, 0, TENANTS);
            System.arraycopy(other.shut, 0, shut, 0, ROOMS);
            System.arraycopy(other.wantOf, 0, wantOf, 0, WANTS);
            System.arraycopy(other.wantRooms, 0, wantRooms, 0, WANTS);
            System.arraycopy(other.wantFrom, 0, wantFrom, 0, WANTS);
            System.arraycopy(other.wantTo, 0, wantTo, 0, WANTS);
            tenants = other.tenants;
            wants = other.wants;
            chance = other.chance;
            texts = other.texts;
            told = other.told;
        }

        private void addTenant(int from, int to, int itsMother) {
            if (tenants < TENANTS) {
                likesFrom[tenants] = from;
                likesTo[tenants] = to;
                mother[tenants] = itsMother;
                tenants++;
            }
        }

        private void addWant(int tenant, int rooms, int from, int to) {
            if (wants < WANTS) {
                wantOf[wants] = tenant;
                wantRooms[wants] = rooms;
                wantFrom[wants] = from;
                wantTo[wants] = to;
                wants++;
            }
        }

        private boolean likesHour(int tenant, int hour) {
            return hour >= likesFrom[tenant] && hour <= likesTo[tenant];
        }

        private int wantedRooms() {
            int sum = 0;
            for (int want = 0; want < wants; want++) {
                sum += wantRooms[want];
            }
            return sum;
        }
    }

    /** The law's lines; each condition is a row of words for a machine with a stack. */
    private static final class Law {
        private static final int LINES = 12;
        private static final int STACK = 40;
        private static final int BAR = 0;
        private static final int RENT = 1;
        private static final int VALUE = 2;
        // A word from 0 on is a number; the facts come below, in the order of World.lookAt; then what joins.
        private static final int DAY = -1;
        private static final int HOUR = -2;
        private static final int COINS = -3;
        private static final int OWNED = -4;
        private static final int GOODS = -5;
        private static final int WEEK = -6;
        private static final int LIKES = -7;
        private static final int BESIDE = -8;
        private static final int FACTS = 8;
        private static final int ADD = -9;
        private static final int LESS = -10;
        private static final int MORE = -11;
        private static final int NOT = -12;
        private static final int AND = -13;
        private static final int OR = -14;

        private final int[] words = new int[TAPE];
        private final int[] begins = new int[LINES + 1];
        private final int[] kinds = new int[LINES];
        private final int[] amounts = new int[LINES];
        private final int[] stack = new int[STACK];
        private int lines = NONE;

        private void copyFrom(Law other) {
            System.arraycopy(other.words, 0, words, 0, TAPE);
            System.arraycopy(other.begins, 0, begins, 0, LINES + 1);
            System.arraycopy(other.kinds, 0, kinds, 0, LINES);
            System.arraycopy(other.amounts, 0, amounts, 0, LINES);
            lines = other.lines;
        }

        private void clearLines() {
            lines = 0;
            begins[0] = 0;
        }

        /** A line stands from here on; its condition's words come behind it. */
        private void addLine(int kind, int amount) {
            if (lines >= 0 && lines < LINES) {
                kinds[lines] = kind;
                amounts[lines] = amount;
                begins[lines + 1] = begins[lines];
                lines++;
            }
        }

        private void addWord(int word) {
            if (lines > 0 && begins[lines] < TAPE) {
                words[begins[lines]] = word;
                begins[lines]++;
            }
        }

        private boolean bars(int[] facts) {
            for (int line = 0; line < lines; line++) {
                if (kinds[line] == BAR && holds(line, facts)) {
                    return true;
                }
            }
            return false;
        }

        private int sumOfLines(int kind, int[] facts) {
            int sum = 0;
            for (int line = 0; line < lines; line++) {
                if (kinds[line] == kind && holds(line, facts)) {
                    sum += amounts[line];
                }
            }
            return sum;
        }

        private boolean holds(int line, int[] facts) {
            int top = 0;
            for (int i = begins[line]; i < begins[line + 1]; i++) {
                int word = words[i];
                if (word >= -FACTS) {
                    if (top < STACK) {
                        stack[top] = word >= 0 ? word : facts[-1 - word];
                        top++;
                    }
                } else if (word == NOT) {
                    if (top > 0) {
                        stack[top - 1] = 1 - stack[top - 1];
                    }
                } else if (top > 1) {
                    top--;
                    stack[top - 1] = join(word, stack[top - 1], stack[top]);
                }
            }
            return top == 0 || stack[0] != 0;
        }

        private static int join(int word, int left, int right) {
            switch (word) {
                case ADD:
                    return left + right;
                case LESS:
                    return left < right ? 1 : 0;
                case MORE:
                    return left > right ? 1 : 0;
                case AND:
                    return left & right;
                default:
                    return left | right;
            }
        }
    }

    /** The town, its roll and its law together: who may have which room, and what goes by with ticks. */
    private static final class World {
        private static final int RENT_WITHOUT_LAW = 5;

        private final Town town = new Town();
        private final Roll roll = new Roll();
        private final Law law = new Law();
        private final int[] facts = new int[Law.FACTS];

        private void copyFrom(World other) {
            town.copyFrom(other.town);
            roll.copyFrom(other.roll);
            law.copyFrom(other.law);
        }

        private boolean isChild(int tenant) {
            return roll.mother[tenant] != NONE;
        }

        private int homeOf(int tenant) {
            return isChild(tenant) ? roll.mother[tenant] : tenant;
        }

        private int grownUps(int tenants) {
            int bits = 0;
            for (int tenant = 0; tenant < roll.tenants; tenant++) {
                if ((tenants >>> tenant & 1) != 0 && !isChild(tenant)) {
                    bits |= 1 << tenant;
                }
            }
            return bits;
        }

        /** In how many rooms that one lives; of NONE: how many have no owner. */
        private int livedIn(int tenant) {
            int rooms = 0;
            for (int room = 0; room < ROOMS; room++) {
                if (town.livesIn(room) == tenant) {
                    rooms++;
                }
            }
            return rooms;
        }

        private int subletRooms() {
            int rooms = 0;
            for (int room = 0; room < ROOMS; room++) {
                if (town.sub[room] != NONE) {
                    rooms++;
                }
            }
            return rooms;
        }

        private int rentOfAll(int tenant) {
            int sum = 0;
            for (int room = 0; room < ROOMS; room++) {
                if (town.owner[room] == tenant) {
                    sum += rentOf(tenant, room);
                }
            }
            return sum;
        }

        private int goodsOfAll(int tenant) {
            int sum = 0;
            for (int room = 0; room < ROOMS; room++) {
                if (town.livesIn(room) == tenant) {
                    sum += town.goods[room];
                }
            }
            return sum;
        }

        private int[] lookAt(int tenant, int room) {
            facts[0] = room / HOURS;
            facts[1] = room % HOURS;
            facts[2] = town.coins[tenant];
            facts[3] = town.owned[tenant];
            facts[4] = town.goods[room];
            facts[5] = town.week;
            facts[6] = roll.likesHour(tenant, room % HOURS) ? 1 : 0;
            boolean beside = town.livesIn(before(room)) == tenant || town.livesIn(after(room)) == tenant;
            facts[7] = beside ? 1 : 0;
            return facts;
        }

        private boolean isBarred(int tenant, int room) {
            return law.lines > 0 && law.bars(lookAt(tenant, room));
        }

        private int rentOf(int tenant, int room) {
            return law.lines == NONE ? RENT_WITHOUT_LAW : law.sumOfLines(Law.RENT, lookAt(tenant, room));
        }

        private int valueOf(int tenant, int room) {
            if (law.lines == NONE) {
                return roll.likesHour(tenant, room % HOURS) ? 1 : 0;
            }
            return law.sumOfLines(Law.VALUE, lookAt(tenant, room));
        }

        private boolean isFree(int room) {
            return town.owner[room] == NONE && roll.shut[room] == 0;
        }

        /** Whether the tenant may take the room with so many coins. */
        private boolean mayTake(int tenant, int room, int coins) {
            return !isChild(tenant) && isFree(room) && !isBarred(tenant, room) && coins >= rentOf(tenant, room);
        }

        /** A room that the tenant may take; answers the rent. */
        private int giveTo(int tenant, int room, int how) {
            int rent = rentOf(tenant, room);
            pay(tenant, rent);
            town.comeTo(room, tenant, how);
            return rent;
        }

        private void pay(int tenant, int coins) {
            town.coins[tenant] -= coins;
            town.till += coins;
        }

        private boolean maySublet(int room, int tenant, int price) {
            int owner = town.owner[room];
            return owner != NONE && town.sub[room] == NONE && owner != tenant && !isChild(tenant)
                    && town.coins[tenant] >= price && !isBarred(tenant, room);
        }

        private void subletTo(int room, int tenant, int price) {
            int owner = town.owner[room];
            int kept = Math.min(price, MOST_COINS - town.coins[owner]);
            town.coins[tenant] -= price;
            town.coins[owner] += kept;
            town.till += price - kept;
            town.sub[room] = tenant;
            town.enter(room, tenant, BY_SUBLET);
        }

        /** The owner who lives in a room is out of it; answers the room for it, or NONE. */
        private int putOut(int room) {
            int owner = town.owner[room];
            int other = room - room % HOURS + EVICTED_HOUR;
            boolean has = other != room && isFree(other);
            town.free(room);
            if (!has) {
                return NONE;
            }
            town.comeTo(other, owner, BY_EVICTION);
            return other;
        }

        private boolean maySwap(int room, int other) {
            int one = town.owner[room];
            int two = town.owner[other];
            return one != NONE && two != NONE && one != two
                    && town.sub[room] == NONE && town.sub[other] == NONE
                    && !isBarred(two, room) && !isBarred(one, other);
        }

        private void tickOn() {
            town.now = after(town.now);
            if (town.now != 0) {
                return;
            }
            town.week++;
            for (int tenant = 0; tenant < roll.tenants; tenant++) {
                payRents(tenant);
            }
            for (int tenant = 0; tenant < roll.tenants; tenant++) {
                if (!isChild(tenant)) {
                    drawRoom(tenant);
                }
            }
        }

        private void payRents(int tenant) {
            for (int room = 0; room < ROOMS; room++) {
                if (town.owner[room] == tenant) {
                    int rent = rentOf(tenant, room);
                    if (town.coins[tenant] >= rent) {
                        pay(tenant, rent);
                    } else {
                        town.free(room);
                    }
                }
            }
        }

        private void drawRoom(int tenant) {
            if (town.draw() % 100 < roll.chance) {
                int room = town.draw() % ROOMS;
                if (mayTake(tenant, room, town.coins[tenant])) {
                    giveTo(tenant, room, BY_DRAW);
                }
            }
        }
    }

    /** A text and the thing in it that comes next; what it expects answers false where it is wrong. */
    private abstract static class Text {
        private static final int END = 0;
        private static final int WORD = 1;
        private static final int NUMBER = 2;
        private static final int SIGN = 3;
        static final int DIGITS = 3;

        private final int[] bytes;
        private int length;
        private int kind;
        private int begin;
        private int end;
        private int number;
        private int wrong;

        private Text(int[] bytes) {
            this.bytes = bytes;
        }

        void open(int bytesOfText) {
            length = Math.min(bytesOfText, bytes.length);
            end = 0;
            wrong = NONE;
            step();
        }

        int firstWrong() {
            return wrong;
        }

        boolean atEnd() {
            return kind == END;
        }

        boolean atNumber() {
            return kind == NUMBER;
        }

        int readNumber() {
            return number;
        }

        boolean hasDigits(int most) {
            return end - begin <= most;
        }

        void step() {
            begin = end;
            while (begin < length && bytes[begin] == ' ') {
                begin++;
            }
            end = begin;
            number = 0;
            if (begin >= length) {
                kind = END;
            } else if (isBetween(begin, 'a', 'z')) {
                kind = WORD;
                while (end < length && isBetween(end, 'a', 'z')) {
                    end++;
                }
            } else if (isBetween(begin, '0', '9')) {
                kind = NUMBER;
                while (end < length && isBetween(end, '0', '9')) {
                    number = number * 10 + bytes[end] - '0';
                    end++;
                }
            } else {
                kind = SIGN;
                end++;
            }
        }

        private boolean isBetween(int at, char least, char most) {
            return bytes[at] >= least && bytes[at] <= most;
        }

        boolean atWord(String word) {
            if (kind != WORD || end - begin != word.length()) {
                return false;
            }
            for (int i = 0; i < word.length(); i++) {
                if (bytes[begin + i] != word.charAt(i)) {
                    return false;
                }
            }
            return true;
        }

        boolean atSign(char sign) {
            return kind == SIGN && bytes[begin] == sign;
        }

        boolean fail() {
            wrong = begin;
            return false;
        }

        boolean passWord(String word) {
            if (!atWord(word)) {
                return fail();
            }
            step();
            return true;
        }

        boolean passSign(char sign) {
            if (!atSign(sign)) {
                return fail();
            }
            step();
            return true;
        }

        /** Whether a number within these bounds stands there; the caller reads it ahead of the next step. */
        boolean isNumber(int digits, int least, int most) {
            if (kind == NUMBER && hasDigits(digits) && number >= least && number <= most) {
                return true;
            }
            return fail();
        }

        int stepOver() {
            int read = number;
            step();
            return read;
        }
    }

    /** Reads a text of the town into a draft, of which nothing is used if the text is wrong. */
    private static final class TownText extends Text {
        private static final int LINES = 14;
        private static final int COIN_DIGITS = 4;
        private static final int MOST_WANTED = 20;
        private static final int MOST_CHANCE = 100;

        private final Town town;
        private final Roll roll;
        private int from;
        private int to;
        private int cell;
        private int tenant;

        private TownText(int[] bytes, World draft) {
            super(bytes);
            town = draft.town;
            roll = draft.roll;
        }

        /** Answers the first wrong byte, or NONE. */
        private int readTown(int length) {
            open(length);
            boolean more = !atEnd();
            for (int line = 0; line < LINES && more; line++) {
                more = readLine() && !atEnd() && passSign(';');
            }
            if (more) {
                fail();
            }
            return firstWrong();
        }

        private boolean readLine() {
            if (atWord("tenant")) {
                return readTenant();
            }
            if (atWord("child")) {
                return readChild();
            }
            if (atWord("let")) {
                return readLet();
            }
            if (atWord("goods")) {
                return readGoods();
            }
            if (atWord("shut")) {
                return readShut();
            }
            if (atWord("sub")) {
                return readSub();
            }
            if (atWord("want")) {
                return readWant();
            }
            return atWord("chance") ? readChance() : fail();
        }

        private boolean readTenant() {
            if (roll.tenants >= TENANTS) {
                return fail();
            }
            step();
            if (!isNumber(COIN_DIGITS, 0, MOST_COINS)) {
                return false;
            }
            int coins = stepOver();
            if (!passWord("likes") || !passFirstHour() || !isSecondHour()) {
                return false;
            }
            step();
            town.coins[roll.tenants] = coins;
            roll.told += coins;
            roll.addTenant(from, to, NONE);
            return true;
        }

        private boolean readChild() {
            if (roll.tenants >= TENANTS) {
                return fail();
            }
            step();
            if (!passWord("of") || !isTenant()) {
                return false;
            }
            step();
            roll.addTenant(NONE, NONE, tenant);
            return true;
        }

        private boolean readLet() {
            step();
            if (!passDay() || !passFirstHour() || !isSecondHour()) {
                return false;
            }
            for (int hour = from; hour <= to; hour++) {
                if (town.owner[cell + hour] != NONE || roll.shut[cell + hour] != 0) {
                    return fail();
                }
            }
            step();
            if (!isTenant()) {
                return false;
            }
            step();
            for (int hour = from; hour <= to; hour++) {
                town.setOwner(cell + hour, tenant);
            }
            return true;
        }

        private boolean readGoods() {
            step();
            if (!passDay() || !isHour()) {
                return false;
            }
            step();
            if (!isNumber(DIGITS, 0, MOST_GOODS)) {
                return false;
            }
            town.goods[cell] = stepOver();
            return true;
        }

        private boolean readShut() {
            step();
            if (!passDay() || !isHour()) {
                return false;
            }
            if (town.owner[cell] != NONE) {
                return fail();
            }
            step();
            roll.shut[cell] = 1;
            return true;
        }

        private boolean readSub() {
            step();
            if (!passDay() || !isHour()) {
                return false;
            }
            if (town.owner[cell] == NONE) {
                return fail();
            }
            step();
            if (!isTenant()) {
                return false;
            }
            if (tenant == town.owner[cell]) {
                return fail();
            }
            step();
            town.sub[cell] = tenant;
            return true;
        }

        private boolean readWant() {
            if (roll.wants >= WANTS) {
                return fail();
            }
            step();
            if (!isTenant()) {
                return false;
            }
            step();
            if (!isNumber(DIGITS, 1, MOST_WANTED)) {
                return false;
            }
            int rooms = stepOver();
            if (!passWord("from") || !passFirstHour() || !isSecondHour()) {
                return false;
            }
            step();
            roll.addWant(tenant, rooms, from, to);
            return true;
        }

        private boolean readChance() {
            step();
            if (!isNumber(DIGITS, 0, MOST_CHANCE)) {
                return false;
            }
            roll.chance = stepOver();
            return true;
        }

        /** The first room of the day is kept as the cell. */
        private boolean passDay() {
            if (!isNumber(DIGITS, 0, DAYS - 1)) {
                return false;
            }
            cell = stepOver() * HOURS;
            return true;
        }

        private boolean passFirstHour() {
            if (!isNumber(DIGITS, 0, HOURS - 1)) {
                return false;
            }
            from = stepOver();
            return passWord("to");
        }

        private boolean isSecondHour() {
            if (!isNumber(DIGITS, from, HOURS - 1)) {
                return false;
            }
            to = readNumber();
            return true;
        }

        /** The hour of the day's cell: the cell is that room then. */
        private boolean isHour() {
            if (!isNumber(DIGITS, 0, HOURS - 1)) {
                return false;
            }
            cell += readNumber();
            return true;
        }

        private boolean isTenant() {
            if (!isNumber(DIGITS, 0, roll.tenants - 1)) {
                return false;
            }
            tenant = readNumber();
            return roll.mother[tenant] == NONE || fail();
        }
    }

    /** Reads a text of the law into a draft. */
    private static final class LawText extends Text {
        private static final int DEEPEST = 6;
        private static final int MOST_NUMBER = 999;
        private static final int PENDING = 40;
        private static final int NO_PART = -100;
        // What waits for its right side, by how close it binds.
        private static final int OPEN = 0;
        private static final int OR = 1;
        private static final int AND = 2;
        private static final int NOT = 3;

        private final Law law;
        private final int[] pending = new int[PENDING];
        private int waiting;
        private int opened;
        private int depth;

        private LawText(int[] bytes, Law draft) {
            super(bytes);
            law = draft;
        }

        /** Answers the first wrong byte, or NONE. */
        private int readLaw(int length) {
            open(length);
            law.clearLines();
            boolean more = !atEnd();
            for (int line = 0; line < Law.LINES && more; line++) {
                more = readHead() && readCondition() && !atEnd() && passSign(';');
            }
            if (more) {
                fail();
            }
            return firstWrong();
        }

        /** What a line says, ahead of its condition. */
        private boolean readHead() {
            if (atWord("bar")) {
                step();
                law.addLine(Law.BAR, 0);
                return true;
            }
            if (!atWord("rent") && !atWord("value")) {
                return fail();
            }
            int kind = atWord("rent") ? Law.RENT : Law.VALUE;
            step();
            if (!isNumber(DIGITS, 0, MOST_NUMBER)) {
                return false;
            }
            law.addLine(kind, stepOver());
            return true;
        }

        private boolean readCondition() {
            if (!atWord("if")) {
                return true;
            }
            step();
            waiting = 0;
            opened = 0;
            depth = 0;
            for (int i = 0; i <= TAPE; i++) {
                if (atWord("not") || atSign('(')) {
                    if (depth >= DEEPEST) {
                        return fail();
                    }
                    goDeeper();
                } else {
                    if (!readAtom()) {
                        return false;
                    }
                    closeAll();
                    if (!atWord("and") && !atWord("or")) {
                        return endCondition();
                    }
                    joinOn(atWord("and") ? AND : OR);
                }
            }
            return fail();
        }

        private void goDeeper() {
            depth++;
            if (atSign('(')) {
                opened++;
                push(OPEN);
            } else {
                push(NOT);
            }
            step();
        }

        private void closeAll() {
            for (int i = 0; i < DEEPEST && opened > 0 && atSign(')'); i++) {
                unwind(OR);
                waiting--;
                opened--;
                depth--;
                step();
            }
        }

        private void joinOn(int rank) {
            unwind(rank);
            push(rank);
            step();
        }

        private boolean endCondition() {
            if (opened > 0) {
                return fail();
            }
            unwind(OR);
            return true;
        }

        private void push(int rank) {
            if (waiting < PENDING) {
                pending[waiting] = rank;
                waiting++;
            }
        }

        /** What binds at least as close as this has its right side: its word comes now. */
        private void unwind(int rank) {
            while (waiting > 0 && pending[waiting - 1] >= rank) {
                waiting--;
                if (pending[waiting] == NOT) {
                    law.addWord(Law.NOT);
                    depth--;
                } else {
                    law.addWord(pending[waiting] == AND ? Law.AND : Law.OR);
                }
            }
        }

        private boolean readAtom() {
            if (atWord("likes") || atWord("beside")) {
                law.addWord(atWord("likes") ? Law.LIKES : Law.BESIDE);
                step();
                return true;
            }
            if (!readSum()) {
                return false;
            }
            if (!atSign('<') && !atSign('>')) {
                return fail();
            }
            int word = atSign('<') ? Law.LESS : Law.MORE;
            step();
            if (!readSum()) {
                return false;
            }
            law.addWord(word);
            return true;
        }

        private boolean readSum() {
            for (int parts = 1; parts <= TAPE; parts++) {
                int word = partThere();
                if (word == NO_PART) {
                    return fail();
                }
                law.addWord(word);
                if (parts > 1) {
                    law.addWord(Law.ADD);
                }
                step();
                if (!atSign('+')) {
                    return true;
                }
                step();
            }
            return fail();
        }

        private int partThere() {
            if (atNumber()) {
                return hasDigits(DIGITS) ? readNumber() : NO_PART;
            }
            if (atWord("day")) {
                return Law.DAY;
            }
            if (atWord("hour")) {
                return Law.HOUR;
            }
            if (atWord("coins")) {
                return Law.COINS;
            }
            if (atWord("rooms")) {
                return Law.OWNED;
            }
            if (atWord("goods")) {
                return Law.GOODS;
            }
            return atWord("week") ? Law.WEEK : NO_PART;
        }
    }

    /** What is to be seen along the ring of rooms: who lives beside whom, rows, and news. */
    private static final class Streets {
        private final World world;
        private final Town town;
        private final int[] costs = new int[ROOMS];

        private Streets(World world) {
            this.world = world;
            town = world.town;
        }

        private int sideBySide(int one, int other, boolean first) {
            int times = 0;
            for (int room = 0; room < ROOMS; room++) {
                if (town.livesIn(room) == one && town.livesIn(after(room)) == other) {
                    if (first) {
                        return room;
                    }
                    times++;
                }
            }
            return first ? NONE : times;
        }

        /** Goes round twice, as a row may go on behind the last room; who NONE: rooms without an owner. */
        private int longestRow(int who, boolean begin) {
            int most = 0;
            int where = NONE;
            int length = 0;
            for (int i = 0; i < 2 * ROOMS; i++) {
                length = town.livesIn(i % ROOMS) == who ? length + 1 : 0;
                if (length > most && length <= ROOMS) {
                    most = length;
                    where = i + 1 - length;
                }
            }
            return begin ? where : most;
        }

        private int firstMeeting(int one, int other) {
            int room = town.now;
            for (int i = 0; i < ROOMS; i++) {
                int here = town.livesIn(room);
                int next = town.livesIn(after(room));
                if (here == one && next == other || here == other && next == one) {
                    return room;
                }
                room = after(room);
            }
            return NONE;
        }

        private int rowOfDifferent(int tenants, boolean begin) {
            int most = 0;
            int where = NONE;
            for (int room = 0; room < ROOMS; room++) {
                int length = differentFrom(room, tenants);
                if (length > most) {
                    most = length;
                    where = room;
                }
            }
            return begin ? where : most;
        }

        private int differentFrom(int begin, int tenants) {
            int left = tenants;
            int room = begin;
            for (int length = 0; length < TENANTS; length++) {
                int who = town.livesIn(room);
                if (who == NONE || (left >>> who & 1) == 0) {
                    return length;
                }
                left &= ~(1 << who);
                room = after(room);
            }
            return TENANTS;
        }

        private int ticksToHear(int from, int to) {
            int know = 1 << from;
            int room = town.now;
            for (int ticks = 0; ticks <= NEWS_TICKS; ticks++) {
                if ((know >>> to & 1) != 0) {
                    return ticks;
                }
                know = toldOn(know, room);
                room = after(room);
            }
            return NONE;
        }

        private int knowBehind(int from, int ticks) {
            int know = 1 << from;
            int room = town.now;
            for (int i = 0; i < ticks; i++) {
                know = toldOn(know, room);
                room = after(room);
            }
            return withChildren(know);
        }

        private int toldOn(int know, int room) {
            int teller = town.livesIn(room);
            int hearer = town.livesIn(after(room));
            if (teller == NONE || hearer == NONE || (know >>> teller & 1) == 0) {
                return know;
            }
            return know | 1 << hearer;
        }

        private int withChildren(int know) {
            int all = know;
            for (int tenant = 0; tenant < world.roll.tenants; tenant++) {
                if ((know >>> world.homeOf(tenant) & 1) != 0) {
                    all |= 1 << tenant;
                }
            }
            return all;
        }

        private int fewestEvictions(int tenant, int n, boolean begin) {
            if (world.isChild(tenant)) {
                return NONE;
            }
            for (int room = 0; room < ROOMS; room++) {
                costs[room] = costOf(tenant, room);
            }
            int fewest = NONE;
            int where = NONE;
            for (int room = 0; room < ROOMS; room++) {
                int cost = costOfRow(room, n);
                if (cost != NONE && (fewest == NONE || cost < fewest)) {
                    fewest = cost;
                    where = room;
                }
            }
            return begin ? where : fewest;
        }

        private int costOf(int tenant, int room) {
            if (world.roll.shut[room] != 0 || world.isBarred(tenant, room)) {
                return NONE;
            }
            int owner = town.owner[room];
            return owner == NONE || owner == tenant ? 0 : 1;
        }

        private int costOfRow(int begin, int n) {
            int sum = 0;
            for (int i = 0; i < n; i++) {
                int cost = costs[(begin + i) % ROOMS];
                if (cost == NONE) {
                    return NONE;
                }
                sum += cost;
            }
            return sum;
        }

        private int nearBy(int room) {
            return bitOf(town.livesIn(before(room))) | bitOf(town.livesIn(room)) | bitOf(town.livesIn(after(room)));
        }

        private static int bitOf(int tenant) {
            return tenant == NONE ? 0 : 1 << tenant;
        }

        private int livedInRow(int tenant, int begin, int n) {
            int rooms = 0;
            for (int i = 0; i < n; i++) {
                if (town.livesIn((begin + i) % ROOMS) == tenant) {
                    rooms++;
                }
            }
            return rooms;
        }

        private int mostInRow(int begin, int n) {
            int most = 0;
            int who = NONE;
            for (int tenant = 0; tenant < world.roll.tenants; tenant++) {
                int rooms = livedInRow(tenant, begin, n);
                if (rooms > most) {
                    most = rooms;
                    who = tenant;
                }
            }
            return who;
        }
    }

    /** What rooms cost and are worth to tenants: cheap ones, envy, fair afternoons and rings. */
    private static final class Deals {
        private static final int MOST_SEATS = 3;
        // More than any law can ask: who has so many coins is refused for none.
        private static final int ANY_RENT = 1000000;

        private final World world;
        private final Town town;
        private final int[] prices = new int[ROOMS];
        private final int[] worth = new int[TENANTS];
        private final int[] seats = new int[MOST_SEATS];
        private final int[] values = new int[MOST_SEATS * FAIR_HOURS];
        private final int[] dealt = new int[FAIR_HOURS];
        private final int[] firstDealt = new int[FAIR_HOURS];
        private final int[] ringWho = new int[TENANTS];
        private final int[] ringRoom = new int[TENANTS];
        private int seated;

        private Deals(World world) {
            this.world = world;
            town = world.town;
        }

        private int cheapest(int tenant, int n, int k) {
            for (int room = 0; room < ROOMS; room++) {
                boolean could = world.mayTake(tenant, room, ANY_RENT);
                prices[room] = could ? world.rentOf(tenant, room) : NONE;
            }
            int sum = 0;
            for (int i = 0; i < n; i++) {
                int room = cheapestLeft();
                if (room == NONE) {
                    return NONE;
                }
                sum += prices[room];
                // A chosen room's price goes below NONE, so that it is neither chosen again nor lost.
                prices[room] = NONE - 1;
            }
            return k == NONE ? sum : chosen(k);
        }

        private int cheapestLeft() {
            int best = NONE;
            for (int room = 0; room < ROOMS; room++) {
                if (prices[room] >= 0 && (best == NONE || prices[room] < prices[best])) {
                    best = room;
                }
            }
            return best;
        }

        private int chosen(int k) {
            int left = k;
            for (int room = 0; room < ROOMS; room++) {
                if (prices[room] < NONE) {
                    if (left == 0) {
                        return room;
                    }
                    left--;
                }
            }
            return NONE;
        }

        private int enviedBy(int tenant) {
            if (world.isChild(tenant)) {
                return 0;
            }
            Arrays.fill(worth, 0);
            for (int room = 0; room < ROOMS; room++) {
                int who = town.livesIn(room);
                if (who != NONE) {
                    worth[who] += world.valueOf(tenant, room);
                }
            }
            int bits = 0;
            for (int other = 0; other < TENANTS; other++) {
                if (worth[other] > worth[tenant]) {
                    bits |= 1 << other;
                }
            }
            return bits;
        }

        /** Whether these are two or three, who are seated then for the deal. */
        private boolean seat(int tenants) {
            int many = Integer.bitCount(tenants);
            if (many != 2 && many != MOST_SEATS) {
                return false;
            }
            seated = 0;
            for (int tenant = 0; tenant < TENANTS; tenant++) {
                if ((tenants >>> tenant & 1) != 0 && seated < MOST_SEATS) {
                    seats[seated] = tenant;
                    seated++;
                }
            }
            return true;
        }

        /** In how many ways the afternoon can be dealt to those seated; the first of them is kept. */
        private int dealFairly(int day) {
            int all = 1;
            for (int i = 0; i < FAIR_HOURS; i++) {
                all *= seated;
                for (int seat = 0; seat < seated; seat++) {
                    int room = day * HOURS + FIRST_FAIR_HOUR + i;
                    values[seat * FAIR_HOURS + i] = world.valueOf(seats[seat], room);
                }
            }
            int ways = 0;
            Arrays.fill(dealt, 0);
            for (int way = 0; way < all; way++) {
                if (isFair()) {
                    if (ways == 0) {
                        System.arraycopy(dealt, 0, firstDealt, 0, FAIR_HOURS);
                    }
                    ways++;
                }
                dealNext();
            }
            return ways;
        }

        /** The next way in order: the last room goes to the next seat, or to the first and the one ahead goes on. */
        private void dealNext() {
            for (int i = FAIR_HOURS - 1; i >= 0; i--) {
                dealt[i]++;
                if (dealt[i] < seated) {
                    return;
                }
                dealt[i] = 0;
            }
        }

        private boolean isFair() {
            for (int seat = 0; seat < seated; seat++) {
                int own = worthOfSeat(seat, seat);
                for (int other = 0; other < seated; other++) {
                    if (worthOfSeat(seat, other) > own) {
                        return false;
                    }
                }
            }
            return true;
        }

        private int worthOfSeat(int seat, int other) {
            int sum = 0;
            for (int i = 0; i < FAIR_HOURS; i++) {
                if (dealt[i] == other) {
                    sum += values[seat * FAIR_HOURS + i];
                }
            }
            return sum;
        }

        private int dealtTo(int i) {
            return seats[firstDealt[i]];
        }

        /** How many are in the ring of a tenant; 0 without one. */
        private int findRing(int tenant) {
            int at = tenant;
            for (int n = 0; n < TENANTS; n++) {
                int room = pointsTo(at);
                if (room == NONE) {
                    return 0;
                }
                ringWho[n] = at;
                ringRoom[n] = room;
                at = town.owner[room];
                if (at == tenant) {
                    return n + 1;
                }
            }
            return 0;
        }

        private int pointsTo(int tenant) {
            if (town.owned[tenant] == 0) {
                return NONE;
            }
            int most = 0;
            for (int room = 0; room < ROOMS; room++) {
                if (town.owner[room] == tenant) {
                    most = Math.max(most, world.valueOf(tenant, room));
                }
            }
            int best = NONE;
            for (int room = 0; room < ROOMS; room++) {
                if (mayPointTo(tenant, room)) {
                    int value = world.valueOf(tenant, room);
                    if (value > most) {
                        most = value;
                        best = room;
                    }
                }
            }
            return best;
        }

        private boolean mayPointTo(int tenant, int room) {
            int owner = town.owner[room];
            return owner != NONE && owner != tenant && town.sub[room] == NONE && !world.isBarred(tenant, room);
        }

        private int pointedBy(int k) {
            return ringRoom[k];
        }

        private void turnRing(int length) {
            for (int i = 0; i < length; i++) {
                town.comeTo(ringRoom[i], ringWho[i], BY_RING);
            }
        }
    }

    /**
     * Gives rooms to wants. The most that can be given is, over all sets of wants, the least of what the
     * wants outside the set want and the rooms that fit into the set: so a row of what each set has to
     * spare (its rooms less what it wants) tells of each room to which wants it can go with nothing lost.
     */
    private static final class Fitting {
        private final World world;
        private final int[] fits = new int[ROOMS];
        private final int[] givenTo = new int[ROOMS];
        private final int[] left = new int[WANTS];
        private final int[] spare = new int[1 << WANTS];
        private int sets;

        private Fitting(World world) {
            this.world = world;
        }

        private int wantOf(int room) {
            return givenTo[room];
        }

        /** Gives in the first way of all that give most; answers how many rooms are given. */
        private int fillWants() {
            prepare();
            int least = leastSpare();
            int rooms = 0;
            for (int room = 0; room < ROOMS; room++) {
                int want = fits[room] == 0 ? NONE : firstWant(fits[room], least);
                givenTo[room] = want;
                change(fits[room], -1);
                if (want != NONE) {
                    left[want]--;
                    change(1 << want, 1);
                    rooms++;
                }
            }
            return rooms;
        }

        private void prepare() {
            Roll roll = world.roll;
            sets = 1 << roll.wants;
            Arrays.fill(spare, 0);
            for (int want = 0; want < roll.wants; want++) {
                left[want] = roll.wantRooms[want];
                change(1 << want, -left[want]);
            }
            for (int room = 0; room < ROOMS; room++) {
                fits[room] = world.isFree(room) ? wantsThatFit(room) : 0;
                change(fits[room], 1);
            }
        }

        private int wantsThatFit(int room) {
            Roll roll = world.roll;
            int hour = room % HOURS;
            int bits = 0;
            for (int want = 0; want < roll.wants; want++) {
                if (hour >= roll.wantFrom[want] && hour <= roll.wantTo[want]
                        && !world.isBarred(roll.wantOf[want], room)) {
                    bits |= 1 << want;
                }
            }
            return bits;
        }

        /** All sets that have one of these wants have so many more to spare. */
        private void change(int wants, int by) {
            if (wants == 0) {
                return;
            }
            for (int set = 0; set < sets; set++) {
                if ((set & wants) != 0) {
                    spare[set] += by;
                }
            }
        }

        private int leastSpare() {
            int least = 0;
            for (int set = 0; set < sets; set++) {
                least = Math.min(least, spare[set]);
            }
            return least;
        }

        /** A set with the least to spare loses a room only to one of its own wants. */
        private int firstWant(int wants, int least) {
            int open = wants;
            for (int set = 0; set < sets; set++) {
                if (spare[set] == least && (set & wants) != 0) {
                    open &= set;
                }
            }
            for (int want = 0; want < WANTS; want++) {
                if ((open >>> want & 1) != 0 && left[want] > 0) {
                    return want;
                }
            }
            return NONE;
        }
    }
}
