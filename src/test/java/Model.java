import java.util.ArrayList;
import java.util.HashMap;
import java.util.HashSet;
import java.util.List;
import java.util.Map;
import java.util.Set;
import java.util.TreeSet;

/**
 * The document a second time, written from its terms with the Java library, so
 * that an error of the program is not made here in the same way.
 */
final class Model {
    private static final class Rental {
        final int holder;
        int paid;
        /** Below 0 while the box is rented. */
        int unpaidWhenDrilled = -1;
        int entries;
        boolean looked;
        final List<int[]> proxies = new ArrayList<>();
        final List<Order> orders = new ArrayList<>();

        Rental(int holder, int paid) {
            this.holder = holder;
            this.paid = paid;
        }
    }

    private record Order(int number, int court, int kind, int person) {
    }

    private final Map<Integer, Rental> rentals = new HashMap<>();
    private final Map<Integer, Set<Integer>> heirs = new HashMap<>();
    private final Set<Integer> dead = new HashSet<>();
    private final List<Integer> refusals = new ArrayList<>();
    private int orders = 0;
    private int day = 0;

    private static void argument(boolean good) {
        if (!good) {
            throw new IllegalArgumentException();
        }
    }

    private static void state(boolean good) {
        if (!good) {
            throw new IllegalStateException();
        }
    }

    private static boolean box(int box) {
        return 0 <= box && box <= 7;
    }

    private static boolean person(int person) {
        return 0 <= person && person <= 15;
    }

    private static boolean span(int days) {
        return 1 <= days && days <= 1000;
    }

    private boolean rented(int box) {
        return rentals.containsKey(box) && rentals.get(box).unpaidWhenDrilled < 0;
    }

    private int overdue(int box) {
        int days = day - rentals.get(box).paid;
        return days > 0 ? days : 0;
    }

    private Set<Integer> livingHeirs(int person) {
        Set<Integer> living = new TreeSet<>(heirs.getOrDefault(person, Set.of()));
        living.removeAll(dead);
        return living;
    }

    private Order bound(int box) {
        Order best = null;
        if (rentals.containsKey(box)) {
            for (int court = 0; court < 2; court++) {
                for (Order order : rentals.get(box).orders) {
                    if (order.court == court) {
                        best = order;
                    }
                }
            }
        }
        return best;
    }

    /** The persons who may by the order that binds the box. */
    private Set<Integer> allowedByOrder(int box) {
        Order order = bound(box);
        int holder = rentals.get(box).holder;
        Set<Integer> allowed = new TreeSet<>();
        if (order.kind == 1 && !dead.contains(order.person)) {
            allowed.add(order.person);
        }
        if (order.kind == 2 && dead.contains(holder)) {
            allowed.addAll(livingHeirs(holder));
        }
        return allowed;
    }

    private Set<Integer> mayEnter(int box) {
        Set<Integer> allowed = new TreeSet<>();
        if (!rented(box)) {
            return allowed;
        }
        Rental rental = rentals.get(box);
        if (bound(box) != null) {
            return allowedByOrder(box);
        }
        if (!dead.contains(rental.holder) && overdue(box) < 30) {
            allowed.add(rental.holder);
            for (int[] proxy : rental.proxies) {
                if (proxy[1] <= day && day <= proxy[2]) {
                    allowed.add(proxy[0]);
                }
            }
            allowed.removeAll(dead);
        }
        return allowed;
    }

    private Set<Integer> mayLook(int box) {
        if (!rented(box) || bound(box) != null) {
            return Set.of();
        }
        Rental rental = rentals.get(box);
        return dead.contains(rental.holder) && !rental.looked ? livingHeirs(rental.holder) : Set.of();
    }

    int pass(int days) {
        argument(span(days));
        state(day + days <= 99999);
        return day += days;
    }

    int rent(int box, int holder, int days) {
        argument(box(box) && person(holder) && span(days));
        state(!rentals.containsKey(box) && !dead.contains(holder));
        rentals.put(box, new Rental(holder, day + days));
        return day + days;
    }

    int extend(int box, int days) {
        argument(box(box) && span(days));
        state(rented(box));
        return rentals.get(box).paid += days;
    }

    int giveBack(int box, int person) {
        argument(box(box) && person(person));
        state(mayEnter(box).contains(person));
        return rentals.remove(box).entries;
    }

    int drill(int box, int one, int other) {
        argument(box(box) && person(one) && person(other) && one != other);
        state(rented(box) && overdue(box) >= 90);
        int holder = rentals.get(box).holder;
        state(!dead.contains(one) && !dead.contains(other) && one != holder && other != holder);
        state(bound(box) == null || bound(box).kind != 0);
        return rentals.get(box).unpaidWhenDrilled = overdue(box);
    }

    int fetch(int box, int person) {
        argument(box(box) && person(person));
        state(rentals.containsKey(box) && !rented(box));
        int holder = rentals.get(box).holder;
        if (bound(box) != null) {
            state(allowedByOrder(box).contains(person));
        } else if (dead.contains(holder)) {
            state(livingHeirs(holder).contains(person));
        } else {
            state(person == holder);
        }
        return rentals.remove(box).unpaidWhenDrilled;
    }

    int proxy(int box, int person, int first, int last) {
        argument(box(box) && person(person) && 0 <= first && first <= last && last <= 99999);
        state(rented(box) && !dead.contains(rentals.get(box).holder));
        state(person != rentals.get(box).holder && rentals.get(box).proxies.size() < 5);
        rentals.get(box).proxies.add(new int[] {person, first, last});
        return rentals.get(box).proxies.size();
    }

    boolean heir(int person, int heir, boolean is) {
        argument(person(person) && person(heir) && person != heir);
        Set<Integer> all = heirs.computeIfAbsent(person, p -> new TreeSet<>());
        return is ? !all.add(heir) : all.remove(heir);
    }

    int die(int person) {
        argument(person(person));
        state(dead.add(person));
        int count = 0;
        for (int box = 0; box < 8; box++) {
            if (rented(box) && rentals.get(box).holder == person) {
                rentals.get(box).proxies.clear();
                count++;
            }
        }
        return count;
    }

    int order(int box, int court, int kind, int person) {
        argument(box(box) && 0 <= court && court <= 1 && 0 <= kind && kind <= 2);
        argument(kind != 1 || person(person));
        state(rentals.containsKey(box) && orders < 30);
        rentals.get(box).orders.add(new Order(orders, court, kind, person));
        return orders++;
    }

    boolean lift(int number) {
        if (number < 0 || number >= orders) {
            throw new IndexOutOfBoundsException();
        }
        for (int box : rentals.keySet()) {
            Order before = bound(box);
            if (rentals.get(box).orders.removeIf(order -> order.number == number)) {
                return before.number == number;
            }
        }
        throw new IllegalStateException();
    }

    int enter(int box, int person, int likeness) {
        argument(box(box) && person(person) && 0 <= likeness && likeness <= 100);
        state(rented(box));
        int right = may(box, person);
        if (right == 3 || likeness < 60) {
            refusals.add(person);
            return right == 3 ? 3 : 2;
        }
        rentals.get(box).entries++;
        rentals.get(box).looked |= right == 1;
        return right;
    }

    int may(int box, int person) {
        argument(box(box) && person(person));
        return mayEnter(box).contains(person) ? 0 : mayLook(box).contains(person) ? 1 : 3;
    }

    int mayAll(int box) {
        argument(box(box));
        return mayEnter(box).size() + mayLook(box).size();
    }

    int holder(int box) {
        argument(box(box));
        return rentals.containsKey(box) ? rentals.get(box).holder : -1;
    }

    int notices(int box) {
        argument(box(box));
        return !rented(box) ? 0 : overdue(box) >= 90 ? 3 : overdue(box) / 30;
    }

    int refusals(int person) {
        argument(person(person));
        return (int) refusals.stream().filter(p -> p == person).count();
    }

    int binding(int box) {
        argument(box(box));
        return bound(box) == null ? -1 : bound(box).number;
    }
}
