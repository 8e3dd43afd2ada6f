import java.util.ArrayList;
import java.util.List;
import java.util.NoSuchElementException;
import java.util.Set;
import java.util.TreeSet;

/**
 * The document's words again, as slowly and as literally as they can be written: nothing is kept
 * that can be asked anew, so that it shares no short cut with the class.
 */
final class Model {
  private record Consent(int person, int purpose, boolean yes, int minute) { }

  private record Contract(int person, int purpose, int from, int to) { }

  private record Duty(int kind, int purpose, int days) { }

  private record Event(int person, int kind, int day) { }

  private record Use(int item, int purpose, int minute, int ground) { }

  private static final class Hold {
    private boolean ofKind;
    private int of;
    private int purpose;
    private int from;
    private Integer lifted;
  }

  private static final class Item {
    private int kind;
    private int day;
    private Set<Integer> persons = new TreeSet<>();
    private int how = -1;
    private long value;
    private List<Item> inputs = new ArrayList<>();
    private boolean lives = true;
  }

  private final List<Integer> parents = new ArrayList<>(List.of(-1));
  private final List<Integer> retentions = new ArrayList<>();
  private final List<Consent> consents = new ArrayList<>();
  private final List<Contract> contracts = new ArrayList<>();
  private final List<Duty> duties = new ArrayList<>();
  private final List<Event> events = new ArrayList<>();
  private final List<Hold> holds = new ArrayList<>();
  private final List<Item> items = new ArrayList<>();
  private final List<Use> uses = new ArrayList<>();
  private int why = -1;

  int purpose(int parent) {
    argument(isIn(parent, parents.size()));
    limit(parents, 16);
    parents.add(parent);
    return parents.size() - 1;
  }

  int kind(int retention) {
    argument(retention >= 1 && retention <= 5000);
    limit(retentions, 8);
    retentions.add(retention);
    return retentions.size() - 1;
  }

  int consent(int person, int purpose, boolean yes, int minute) {
    argument(isIn(person, 16) && isIn(purpose, parents.size()) && isIn(minute, 10000001));
    limit(consents, 100);
    consents.add(new Consent(person, purpose, yes, minute));
    return consents.size();
  }

  int contract(int person, int purpose, int from, int to) {
    argument(isIn(person, 16) && isIn(purpose, parents.size()) && isIn(from, 10000001)
        && isIn(to, 10000001) && from <= to);
    limit(contracts, 40);
    contracts.add(new Contract(person, purpose, from, to));
    return contracts.size();
  }

  int duty(int kind, int purpose, int days) {
    argument(isIn(kind, retentions.size()) && isIn(purpose, parents.size()) && days >= 1
        && days <= 5000);
    limit(duties, 20);
    duties.add(new Duty(kind, purpose, days));
    return duties.size();
  }

  int put(int person, int kind, int value, int day) {
    argument(isIn(person, 16) && isIn(kind, retentions.size()) && isIn(day, 6945));
    limit(items, 100);
    Item item = new Item();
    item.persons.add(person);
    item.kind = kind;
    item.value = value;
    item.day = day;
    items.add(item);
    return items.size() - 1;
  }

  int derive(int how, int a, int b) {
    argument(how >= 0 && how <= 2);
    argument(how == 0 || a != b);
    Item item = new Item();
    item.how = how;
    for (int input : how == 0 ? List.of(a) : List.of(a, b)) {
      if (!living(input)) {
        throw new NoSuchElementException();
      }
      item.inputs.add(items.get(input));
    }
    limit(items, 100);
    item.kind = item.inputs.get(0).kind;
    for (Item input : item.inputs) {
      item.day = Math.max(item.day, input.day);
      item.persons.addAll(input.persons);
    }
    items.add(item);
    return items.size() - 1;
  }

  int event(int person, int kind, int day) {
    argument(isIn(person, 16) && isIn(kind, retentions.size()) && isIn(day, 6945));
    limit(events, 60);
    events.add(new Event(person, kind, day));
    return events.size();
  }

  int hold(int of, int purpose, int from) {
    boolean ofKind = of >= 100 && isIn(of - 100, retentions.size());
    argument((ofKind || isIn(of, 16)) && isIn(purpose, parents.size()) && isIn(from, 6945));
    limit(holds, 30);
    Hold hold = new Hold();
    hold.ofKind = ofKind;
    hold.of = ofKind ? of - 100 : of;
    hold.purpose = purpose;
    hold.from = from;
    holds.add(hold);
    return holds.size() - 1;
  }

  void lift(int number, int day) {
    argument(isIn(number, holds.size()));
    Hold hold = holds.get(number);
    argument(day >= hold.from && day <= 6944);
    if (hold.lifted != null) {
      throw new IllegalStateException();
    }
    hold.lifted = day;
  }

  long use(int number, int purpose, int minute) {
    argument(isIn(purpose, parents.size()) && isIn(minute, 10000001));
    if (!living(number)) {
      throw new NoSuchElementException();
    }
    why = ground(items.get(number), purpose, minute);
    if (uses.size() < 200) {
      uses.add(new Use(number, purpose, minute, why));
    }
    if (why == 0) {
      throw new IllegalStateException();
    }
    return value(items.get(number));
  }

  int why() {
    return why;
  }

  int erase(int person, int minute) {
    argument(isIn(person, 16) && isIn(minute, 10000001));
    List<Item> chosen = new ArrayList<>();
    for (Item item : items) {
      if (item.how < 0 && item.persons.contains(person)) {
        chosen.add(item);
      }
    }
    return eraseSome(chosen, minute / 1440);
  }

  int sweep(int day) {
    argument(isIn(day, 6945));
    List<Item> chosen = new ArrayList<>();
    for (Item item : items) {
      int due = due(item);
      if (due >= 0 && due <= day) {
        chosen.add(item);
      }
    }
    return eraseSome(chosen, day);
  }

  int held(int person, int i) {
    List<Integer> found = new ArrayList<>();
    for (int number = 0; number < items.size(); number++) {
      if (items.get(number).lives && items.get(number).persons.contains(person)) {
        found.add(number);
      }
    }
    return isIn(i, found.size()) ? found.get(i) : -1;
  }

  int logged(int i, int what) {
    if (!isIn(i, uses.size()) || !isIn(what, 4)) {
      return -1;
    }
    Use use = uses.get(i);
    return List.of(use.item, use.purpose, use.minute, use.ground).get(what);
  }

  long peek(int number) {
    return living(number) ? value(items.get(number)) : 0;
  }

  int look(int number, int what) {
    if (!living(number) || !isIn(what, 5)) {
      return -1;
    }
    Item item = items.get(number);
    int bits = 0;
    for (int person : item.persons) {
      bits += 1 << person;
    }
    int derived = 0;
    for (Item other : items) {
      derived += other.lives && other.inputs.contains(item) ? 1 : 0;
    }
    return List.of(item.kind, item.day, bits, due(item), derived).get(what);
  }

  int state(int what) {
    int living = 0;
    for (Item item : items) {
      living += item.lives ? 1 : 0;
    }
    return isIn(what, 6) ? List.of(parents.size(), retentions.size(), items.size(), living,
        uses.size(), holds.size()).get(what) : -1;
  }

  private static boolean isIn(int number, int end) {
    return number >= 0 && number < end;
  }

  private static void argument(boolean fine) {
    if (!fine) {
      throw new IllegalArgumentException();
    }
  }

  private static void limit(List<?> list, int most) {
    if (list.size() >= most) {
      throw new IllegalStateException();
    }
  }

  private boolean living(int number) {
    return isIn(number, items.size()) && items.get(number).lives;
  }

  private long value(Item item) {
    return values().get(items.indexOf(item));
  }

  private List<Long> values() {
    List<Long> values = new ArrayList<>();
    for (Item item : items) {
      List<Long> inputs = new ArrayList<>();
      for (Item input : item.inputs) {
        inputs.add(input.lives ? values.get(items.indexOf(input)) : 0L);
      }
      values.add(switch (item.how) {
        case 0 -> inputs.get(0);
        case 1 -> inputs.get(0) + inputs.get(1);
        case 2 -> inputs.get(0) > inputs.get(1) ? 1L : 0L;
        default -> item.value;
      });
    }
    return values;
  }

  private List<Integer> upward(int purpose) {
    List<Integer> way = new ArrayList<>();
    for (int p = purpose; p >= 0; p = parents.get(p)) {
      way.add(p);
    }
    return way;
  }

  private int ground(Item item, int purpose, int minute) {
    int day = minute / 1440;
    boolean only4 = false;
    boolean four = false;
    for (Hold hold : holds) {
      if (covers(hold, item, day)) {
        only4 |= !hold.ofKind;
        four |= hold.purpose == purpose;
      }
    }
    if (!only4) {
      boolean one = true;
      for (int person : item.persons) {
        one &= consentSays(person, purpose, minute);
      }
      if (one) {
        return 1;
      }
      for (Contract c : contracts) {
        if (item.persons.contains(c.person) && upward(purpose).contains(c.purpose)
            && c.from <= minute && minute <= c.to) {
          return 2;
        }
      }
      for (Duty duty : duties) {
        if (duty.purpose == purpose && covers(duty, item, day)) {
          return 3;
        }
      }
    }
    return four ? 4 : 0;
  }

  private boolean consentSays(int person, int purpose, int minute) {
    for (int p : upward(purpose)) {
      Consent last = null;
      for (Consent entry : consents) {
        if (entry.person == person && entry.purpose == p && entry.minute <= minute
            && (last == null || entry.minute >= last.minute)) {
          last = entry;
        }
      }
      if (last != null) {
        return last.yes;
      }
    }
    return false;
  }

  private static boolean covers(Hold hold, Item item, int day) {
    boolean its = hold.ofKind ? hold.of == item.kind : item.persons.contains(hold.of);
    return its && day >= hold.from && (hold.lifted == null || day < hold.lifted);
  }

  private static boolean covers(Duty duty, Item item, int day) {
    return duty.kind == item.kind && item.day <= day && day < item.day + duty.days;
  }

  /** By going round until nothing is added any more: a long chain makes no deep recursion. */
  private Set<Integer> kept(int day) {
    Set<Integer> kept = new TreeSet<>();
    for (boolean more = true; more; ) {
      more = false;
      for (int i = 0; i < items.size(); i++) {
        more |= items.get(i).lives && isKeptStraight(i, day, kept) && kept.add(i);
      }
    }
    return kept;
  }

  private boolean isKeptStraight(int number, int day, Set<Integer> kept) {
    Item item = items.get(number);
    for (Hold hold : holds) {
      if (covers(hold, item, day)) {
        return true;
      }
    }
    for (Duty duty : duties) {
      if (covers(duty, item, day)) {
        return true;
      }
    }
    for (int other : kept) {
      if (items.get(other).inputs.contains(item)) {
        return true;
      }
    }
    return false;
  }

  private int eraseSome(List<Item> chosen, int day) {
    int before = state(3);
    Set<Integer> kept = kept(day);
    for (Item item : chosen) {
      if (!kept.contains(items.indexOf(item))) {
        item.lives = false;
      }
    }
    for (boolean more = true; more; ) {
      more = false;
      for (Item item : items) {
        if (item.lives && item.how >= 0 && isOrphan(item)) {
          item.lives = false;
          more = true;
        }
      }
    }
    return before - state(3);
  }

  private static boolean isOrphan(Item item) {
    int living = 0;
    for (Item input : item.inputs) {
      living += input.lives ? 1 : 0;
    }
    return item.how == 1 ? living == 0 : living < item.inputs.size();
  }

  private int due(Item item) {
    int latest = -1;
    for (Event event : events) {
      if (item.how < 0 && item.lives && item.persons.contains(event.person)
          && event.kind == item.kind && event.day >= item.day) {
        latest = Math.max(latest, event.day);
      }
    }
    return latest < 0 ? -1 : latest + retentions.get(item.kind);
  }
}
