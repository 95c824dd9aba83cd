/**
 * Safe boxes of a bank: holders, proxies, entries, rent and notices, drilling,
 * deaths, heirs, and the orders of two courts.
 */
public final class BoxVault {
    public static final int ENTERED = 0, LOOKED = 1, UNLIKE = 2, NO_RIGHT = 3;

    private static final int BOXES = 8;
    private static final int PERSONS = 16;
    private static final int NONE = -1;

    private static final int LAST_DAY = 99999;
    private static final int LONGEST_SPAN = 1000;
    private static final int DAYS_PER_NOTICE = 30;
    private static final int MOST_NOTICES = 3;
    private static final int MOST_PROXIES = 5;
    private static final int MOST_ORDERS = 30;
    private static final int FULL_LIKENESS = 100;
    private static final int LEAST_LIKENESS = 60;

    private static final int HIGHER_COURT = 1;
    private static final int NOBODY_MAY = 0;
    private static final int ONE_MAY = 1;
    private static final int HEIRS_MAY = 2;

    private final Box[] boxes = new Box[BOXES];
    private final OrderBook orders = new OrderBook();
    private final boolean[] dead = new boolean[PERSONS];
    /** By person, a bit for each heir. */
    private final int[] heirs = new int[PERSONS];
    private final int[] refused = new int[PERSONS];
    private int today = 0;

    public BoxVault() {
        for (int i = 0; i < BOXES; i++) {
            boxes[i] = new Box();
        }
    }

    // ---- boxes, rent

    public int pass(int days) throws IllegalArgumentException, IllegalStateException {
        requireRange(days, 1, LONGEST_SPAN);
        if (days > LAST_DAY - today) {
            throw new IllegalStateException("it would be later than the last day");
        }
        today += days;
        return today;
    }

    public int rent(int box, int holder, int days) throws IllegalArgumentException, IllegalStateException {
        Box rented = boxAt(box);
        requirePerson(holder);
        requireRange(days, 1, LONGEST_SPAN);
        if (!rented.isFree()) {
            throw new IllegalStateException("the box is not free");
        }
        if (!isAlive(holder)) {
            throw new IllegalStateException("the person is dead");
        }
        rented.startRent(holder, today + days);
        return rented.paidUpTo;
    }

    public int extend(int box, int days) throws IllegalArgumentException, IllegalStateException {
        Box paid = boxAt(box);
        requireRange(days, 1, LONGEST_SPAN);
        requireRented(paid);
        paid.paidUpTo += days;
        return paid.paidUpTo;
    }

    public int giveBack(int box, int person) throws IllegalArgumentException, IllegalStateException {
        Box given = boxAt(box);
        requirePerson(person);
        requireRented(given);
        if (rightOf(box, given, person) != ENTERED) {
            throw new IllegalStateException("the person may not give the box back");
        }
        int entries = given.entries;
        makeFree(box, given);
        return entries;
    }

    public int drill(int box, int one, int other) throws IllegalArgumentException, IllegalStateException {
        Box drilled = boxAt(box);
        requirePerson(one);
        requirePerson(other);
        if (one == other) {
            throw new IllegalArgumentException("the witnesses are the same");
        }
        requireRented(drilled);
        if (drilled.noticesOn(today) < MOST_NOTICES) {
            throw new IllegalStateException("the box has too few notices");
        }
        if (!canWitness(drilled, one) || !canWitness(drilled, other)) {
            throw new IllegalStateException("a witness is dead or the holder");
        }
        if (orders.kindOf(orders.bindingOn(box)) == NOBODY_MAY) {
            throw new IllegalStateException("an order forbids it");
        }
        drilled.breakOpen(today);
        return drilled.unpaidDays;
    }

    public int fetch(int box, int person) throws IllegalArgumentException, IllegalStateException {
        Box drilled = boxAt(box);
        requirePerson(person);
        if (drilled.state != Box.DRILLED) {
            throw new IllegalStateException("the box is not drilled");
        }
        if (!mayFetch(box, drilled, person)) {
            throw new IllegalStateException("the person may not fetch it");
        }
        int unpaidDays = drilled.unpaidDays;
        makeFree(box, drilled);
        return unpaidDays;
    }

    // ---- proxies, heirs, deaths, orders

    public int proxy(int box, int person, int first, int last)
            throws IllegalArgumentException, IllegalStateException {
        Box entrusted = boxAt(box);
        requirePerson(person);
        requireRange(first, 0, LAST_DAY);
        requireRange(last, first, LAST_DAY);
        requireRented(entrusted);
        if (!isAlive(entrusted.holder)) {
            throw new IllegalStateException("the holder is dead");
        }
        if (person == entrusted.holder) {
            throw new IllegalStateException("the person is the holder");
        }
        if (entrusted.proxyCount >= MOST_PROXIES) {
            throw new IllegalStateException("there are too many proxies");
        }
        entrusted.addProxy(person, first, last);
        return entrusted.proxyCount;
    }

    public boolean heir(int person, int heir, boolean is) throws IllegalArgumentException {
        requirePerson(person);
        requirePerson(heir);
        if (person == heir) {
            throw new IllegalArgumentException("nobody is their own heir");
        }
        boolean was = isHeir(heir, person);
        int bit = 1 << heir;
        heirs[person] = is ? heirs[person] | bit : heirs[person] & ~bit;
        return was;
    }

    public int die(int person) throws IllegalArgumentException, IllegalStateException {
        requirePerson(person);
        if (dead[person]) {
            throw new IllegalStateException("the person is dead");
        }
        dead[person] = true;
        int rented = 0;
        for (int i = 0; i < BOXES; i++) {
            if (boxes[i].holder == person) {
                boxes[i].endProxies();
                rented += boxes[i].isRented() ? 1 : 0;
            }
        }
        return rented;
    }

    public int order(int box, int court, int kind, int person)
            throws IllegalArgumentException, IllegalStateException {
        Box ordered = boxAt(box);
        requireRange(court, 0, HIGHER_COURT);
        requireRange(kind, NOBODY_MAY, HEIRS_MAY);
        if (kind == ONE_MAY) {
            requirePerson(person);
        }
        if (ordered.isFree()) {
            throw new IllegalStateException("the box is free");
        }
        if (orders.isFull()) {
            throw new IllegalStateException("there are too many orders");
        }
        return orders.add(box, court, kind, person);
    }

    public boolean lift(int order) throws IndexOutOfBoundsException, IllegalStateException {
        if (!orders.has(order)) {
            throw new IndexOutOfBoundsException("there was no such order");
        }
        if (!orders.isInForce(order)) {
            throw new IllegalStateException("the order does not hold any more");
        }
        boolean bound = orders.isBinding(order);
        orders.end(order);
        return bound;
    }

    // ---- entries

    public int enter(int box, int person, int likeness) throws IllegalArgumentException, IllegalStateException {
        Box entered = boxAt(box);
        requirePerson(person);
        requireRange(likeness, 0, FULL_LIKENESS);
        requireRented(entered);
        int outcome = rightOf(box, entered, person);
        if (outcome != NO_RIGHT && likeness < LEAST_LIKENESS) {
            outcome = UNLIKE;
        }
        if (outcome == NO_RIGHT || outcome == UNLIKE) {
            refused[person]++;
            return outcome;
        }
        entered.entries++;
        if (outcome == LOOKED) {
            entered.willSought = true;
        }
        return outcome;
    }

    public int may(int box, int person) throws IllegalArgumentException {
        Box asked = boxAt(box);
        requirePerson(person);
        return rightOf(box, asked, person);
    }

    public int mayAll(int box) throws IllegalArgumentException {
        Box asked = boxAt(box);
        int allowed = 0;
        for (int person = 0; person < PERSONS; person++) {
            if (rightOf(box, asked, person) != NO_RIGHT) {
                allowed++;
            }
        }
        return allowed;
    }

    public int holder(int box) throws IllegalArgumentException {
        return boxAt(box).holder;
    }

    public int notices(int box) throws IllegalArgumentException {
        Box asked = boxAt(box);
        return asked.isRented() ? asked.noticesOn(today) : 0;
    }

    public int refusals(int person) throws IllegalArgumentException {
        requirePerson(person);
        return refused[person];
    }

    public int binding(int box) throws IllegalArgumentException {
        requireRange(box, 0, BOXES - 1);
        return orders.bindingOn(box);
    }

    // ---- what the calls share

    private static void requireRange(int value, int low, int high) {
        if (value < low || value > high) {
            throw new IllegalArgumentException("an argument is out of range");
        }
    }

    private static void requirePerson(int person) {
        requireRange(person, 0, PERSONS - 1);
    }

    private static void requireRented(Box box) {
        if (!box.isRented()) {
            throw new IllegalStateException("the box is not rented");
        }
    }

    private Box boxAt(int box) {
        requireRange(box, 0, BOXES - 1);
        return boxes[box];
    }

    /** The holder of a free box is no person: it is neither alive nor has heirs. */
    private static boolean isPerson(int person) {
        return person >= 0 && person < PERSONS;
    }

    private boolean isAlive(int person) {
        return isPerson(person) && !dead[person];
    }

    private boolean isHeir(int heir, int person) {
        return isPerson(heir) && isPerson(person) && (heirs[person] >> heir & 1) == 1;
    }

    private boolean isHeirOfDead(int heir, int person) {
        return !isAlive(person) && isHeir(heir, person);
    }

    private boolean canWitness(Box box, int person) {
        return isAlive(person) && person != box.holder;
    }

    /** Answers ENTERED, LOOKED or NO_RIGHT: a right does not depend on a signature. */
    private int rightOf(int number, Box box, int person) {
        if (!box.isRented() || !isAlive(person)) {
            return NO_RIGHT;
        }
        int binding = orders.bindingOn(number);
        if (binding != NONE) {
            return orderAllows(binding, box, person) ? ENTERED : NO_RIGHT;
        }
        if (isAlive(box.holder)) {
            return holderAllows(box, person) ? ENTERED : NO_RIGHT;
        }
        return isHeir(person, box.holder) && !box.willSought ? LOOKED : NO_RIGHT;
    }

    private boolean orderAllows(int order, Box box, int person) {
        switch (orders.kindOf(order)) {
            case ONE_MAY:
                return person == orders.personOf(order);
            case HEIRS_MAY:
                return isHeirOfDead(person, box.holder);
            default:
                return false;
        }
    }

    private boolean holderAllows(Box box, int person) {
        return box.noticesOn(today) == 0
                && (person == box.holder || box.hasProxyOn(today, person));
    }

    private boolean mayFetch(int number, Box box, int person) {
        if (!isAlive(person)) {
            return false;
        }
        int binding = orders.bindingOn(number);
        if (binding != NONE) {
            return orderAllows(binding, box, person);
        }
        return person == box.holder || isHeirOfDead(person, box.holder);
    }

    private void makeFree(int number, Box box) {
        box.empty();
        orders.endAllOn(number);
    }

    /** One box, with what is known of it since it was rented. */
    private static final class Box {
        private static final int FREE = 0;
        private static final int RENTED = 1;
        private static final int DRILLED = 2;

        private int state = FREE;
        private int holder = NONE;
        private int paidUpTo = 0;
        private int unpaidDays = 0;
        private int entries = 0;
        private boolean willSought = false;
        private int proxyCount = 0;
        private final int[] proxyPerson = new int[MOST_PROXIES];
        private final int[] proxyFirst = new int[MOST_PROXIES];
        private final int[] proxyLast = new int[MOST_PROXIES];

        private boolean isFree() {
            return state == FREE;
        }

        private boolean isRented() {
            return state == RENTED;
        }

        private void startRent(int person, int lastPaidDay) {
            state = RENTED;
            holder = person;
            paidUpTo = lastPaidDay;
            entries = 0;
            willSought = false;
        }

        private void breakOpen(int day) {
            state = DRILLED;
            unpaidDays = overdueOn(day);
        }

        private void empty() {
            state = FREE;
            holder = NONE;
            endProxies();
        }

        private int overdueOn(int day) {
            return Math.max(0, day - paidUpTo);
        }

        private int noticesOn(int day) {
            return Math.min(MOST_NOTICES, overdueOn(day) / DAYS_PER_NOTICE);
        }

        private void addProxy(int person, int first, int last) {
            if (proxyCount < 0 || proxyCount >= MOST_PROXIES) {
                return;
            }
            proxyPerson[proxyCount] = person;
            proxyFirst[proxyCount] = first;
            proxyLast[proxyCount] = last;
            proxyCount++;
        }

        private void endProxies() {
            proxyCount = 0;
        }

        private boolean hasProxyOn(int day, int person) {
            for (int i = 0; i < proxyCount && i < MOST_PROXIES; i++) {
                if (proxyPerson[i] == person && proxyFirst[i] <= day && day <= proxyLast[i]) {
                    return true;
                }
            }
            return false;
        }
    }

    /** All orders ever given, by number: an order keeps its number when it ends. */
    private static final class OrderBook {
        private int count = 0;
        private final int[] box = new int[MOST_ORDERS];
        private final int[] court = new int[MOST_ORDERS];
        private final int[] kind = new int[MOST_ORDERS];
        private final int[] person = new int[MOST_ORDERS];
        private final boolean[] holds = new boolean[MOST_ORDERS];

        private boolean isFull() {
            return count >= MOST_ORDERS;
        }

        private boolean has(int order) {
            return order >= 0 && order < count && order < MOST_ORDERS;
        }

        private int add(int onBox, int byCourt, int ofKind, int forPerson) {
            if (count < 0 || count >= MOST_ORDERS) {
                return NONE;
            }
            int order = count;
            box[order] = onBox;
            court[order] = byCourt;
            kind[order] = ofKind;
            person[order] = forPerson;
            holds[order] = true;
            count++;
            return order;
        }

        private boolean isInForce(int order) {
            return has(order) && holds[order];
        }

        private boolean isBinding(int order) {
            return has(order) && bindingOn(box[order]) == order;
        }

        private void end(int order) {
            if (has(order)) {
                holds[order] = false;
            }
        }

        private int kindOf(int order) {
            return has(order) ? kind[order] : NONE;
        }

        private int personOf(int order) {
            return has(order) ? person[order] : NONE;
        }

        private int bindingOn(int number) {
            int binding = NONE;
            for (int i = 0; i < count && i < MOST_ORDERS; i++) {
                if (holds[i] && box[i] == number && (binding == NONE || court[i] >= court[binding])) {
                    binding = i;
                }
            }
            return binding;
        }

        private void endAllOn(int number) {
            for (int i = 0; i < count && i < MOST_ORDERS; i++) {
                if (box[i] == number) {
                    holds[i] = false;
                }
            }
        }
    }
}
