import java.util.NoSuchElementException;

/**
 * A register of items about persons: purposes in a tree, grounds and holds that decide each use,
 * items derived from others, retention by days, and erasure that reaches all that was derived.
 */
public final class ConsentRegister {
  private static final int PERSONS = 16;
  private static final int LAST_MINUTE = 10_000_000;
  private static final int LAST_DAY = 6_944;
  private static final int MOST_DAYS = 5_000;
  private static final int MINUTES_OF_A_DAY = 1_440;

  /** What is added to a kind's number to tell it from a person's in a hold. */
  private static final int KIND_MARK = 100;

  private static final int COPY = 0;
  private static final int SUM = 1;
  private static final int FLAG = 2;

  private static final int NO_GROUND = 0;
  private static final int CONSENT = 1;
  private static final int CONTRACT = 2;
  private static final int DUTY = 3;
  private static final int HOLD = 4;

  /** What a question about something that isn't there is answered with. */
  private static final int NONE = -1;

  private final Purposes purposes = new Purposes();
  private final Kinds kinds = new Kinds();
  private final Consents consents = new Consents();
  private final Contracts contracts = new Contracts();
  private final Duties duties = new Duties();
  private final Events events = new Events();
  private final Holds holds = new Holds();
  private final Items items = new Items();
  private final Log log = new Log();
  private int latestGround = NONE;

  public ConsentRegister() {
  }

  public int purpose(int parent) throws IllegalArgumentException, IllegalStateException {
    if (!purposes.has(parent)) {
      throw new IllegalArgumentException("there is no such parent");
    }
    int number = purposes.add(parent);
    if (number < 0) {
      throw new IllegalStateException("there are 16 purposes");
    }
    return number;
  }

  public int kind(int retention) throws IllegalArgumentException, IllegalStateException {
    if (!isSpanOfDays(retention)) {
      throw new IllegalArgumentException("the retention is not 1 to 5,000 days");
    }
    int number = kinds.add(retention);
    if (number < 0) {
      throw new IllegalStateException("there are 8 kinds");
    }
    return number;
  }

  public int consent(int person, int purpose, boolean yes, int minute)
      throws IllegalArgumentException, IllegalStateException {
    if (!isPerson(person) || !purposes.has(purpose) || !isMinute(minute)) {
      throw new IllegalArgumentException("there is no such person, purpose or minute");
    }
    int total = consents.add(person, purpose, yes, minute);
    if (total < 0) {
      throw new IllegalStateException("there are 100 entries");
    }
    return total;
  }

  public int contract(int person, int purpose, int from, int to)
      throws IllegalArgumentException, IllegalStateException {
    if (!isPerson(person) || !purposes.has(purpose)) {
      throw new IllegalArgumentException("there is no such person or purpose");
    }
    if (!isMinute(from) || !isMinute(to) || from > to) {
      throw new IllegalArgumentException("these minutes are no span");
    }
    int total = contracts.add(person, purpose, from, to);
    if (total < 0) {
      throw new IllegalStateException("there are 40 spans");
    }
    return total;
  }

  public int duty(int kind, int purpose, int days)
      throws IllegalArgumentException, IllegalStateException {
    if (!kinds.has(kind) || !purposes.has(purpose) || !isSpanOfDays(days)) {
      throw new IllegalArgumentException("there is no such kind, purpose or number of days");
    }
    int total = duties.add(kind, purpose, days);
    if (total < 0) {
      throw new IllegalStateException("there are 20 duties");
    }
    return total;
  }

  public int put(int person, int kind, int value, int day)
      throws IllegalArgumentException, IllegalStateException {
    if (!isPerson(person) || !kinds.has(kind) || !isDay(day)) {
      throw new IllegalArgumentException("there is no such person, kind or day");
    }
    int number = items.addPut(person, kind, value, day);
    if (number < 0) {
      throw new IllegalStateException("there were 100 items");
    }
    return number;
  }

  public int derive(int how, int a, int b)
      throws NoSuchElementException, IllegalArgumentException, IllegalStateException {
    if (how != COPY && how != SUM && how != FLAG) {
      throw new IllegalArgumentException("there is no such way to derive");
    }
    if (how != COPY && a == b) {
      throw new IllegalArgumentException("both inputs are one item");
    }
    int second = how == COPY ? a : b;
    if (!items.lives(a) || !items.lives(second)) {
      throw new NoSuchElementException("an input does not live");
    }
    int number = items.addDerived(how, a, second);
    if (number < 0) {
      throw new IllegalStateException("there were 100 items");
    }
    return number;
  }

  public int event(int person, int kind, int day)
      throws IllegalArgumentException, IllegalStateException {
    if (!isPerson(person) || !kinds.has(kind) || !isDay(day)) {
      throw new IllegalArgumentException("there is no such person, kind or day");
    }
    int total = events.add(person, kind, day);
    if (total < 0) {
      throw new IllegalStateException("there are 60 events");
    }
    return total;
  }

  public int hold(int of, int purpose, int from)
      throws IllegalArgumentException, IllegalStateException {
    if (!isPerson(of) && !isMarkedKind(of)) {
      throw new IllegalArgumentException("there is no such person or kind");
    }
    if (!purposes.has(purpose) || !isDay(from)) {
      throw new IllegalArgumentException("there is no such purpose or day");
    }
    int number = holds.add(of, purpose, from);
    if (number < 0) {
      throw new IllegalStateException("there are 30 holds");
    }
    return number;
  }

  public void lift(int hold, int day) throws IllegalArgumentException, IllegalStateException {
    if (!holds.has(hold) || day < holds.firstDayOf(hold) || day > LAST_DAY) {
      throw new IllegalArgumentException("there is no such hold, or it has no such day");
    }
    if (holds.isLifted(hold)) {
      throw new IllegalStateException("the hold was lifted");
    }
    holds.endOn(hold, day);
  }

  public long use(int item, int purpose, int minute)
      throws NoSuchElementException, IllegalArgumentException, IllegalStateException {
    if (!purposes.has(purpose) || !isMinute(minute)) {
      throw new IllegalArgumentException("there is no such purpose or minute");
    }
    if (!items.lives(item)) {
      throw new NoSuchElementException("the item does not live");
    }
    latestGround = groundOf(item, purpose, minute);
    log.add(item, purpose, minute, latestGround);
    if (latestGround == NO_GROUND) {
      throw new IllegalStateException("there is no ground for this use");
    }
    return items.valueOf(item);
  }

  public int why() {
    return latestGround;
  }

  public int erase(int person, int minute) throws IllegalArgumentException {
    if (!isPerson(person) || !isMinute(minute)) {
      throw new IllegalArgumentException("there is no such person or minute");
    }
    int before = items.living();
    markKept(dayOfMinute(minute));
    for (int i = 0; i < items.total(); i++) {
      if (items.isPut(i) && items.isAbout(i, person)) {
        items.endUnlessKept(i);
      }
    }
    items.followInputs();
    return before - items.living();
  }

  public int sweep(int day) throws IllegalArgumentException {
    if (!isDay(day)) {
      throw new IllegalArgumentException("the day is not 0 to 6,944");
    }
    int before = items.living();
    markKept(day);
    for (int i = 0; i < items.total(); i++) {
      int due = firstDueDay(i);
      if (due != NONE && due <= day) {
        items.endUnlessKept(i);
      }
    }
    items.followInputs();
    return before - items.living();
  }

  public int held(int person, int i) {
    if (!isPerson(person)) {
      return NONE;
    }
    int seen = 0;
    for (int item = 0; item < items.total(); item++) {
      if (items.lives(item) && items.isAbout(item, person)) {
        if (seen == i) {
          return item;
        }
        seen++;
      }
    }
    return NONE;
  }

  public int logged(int i, int what) {
    return log.read(i, what);
  }

  public long peek(int item) {
    return items.valueOf(item);
  }

  public int look(int item, int what) {
    if (!items.lives(item)) {
      return NONE;
    }
    switch (what) {
      case 0:
        return items.kindOf(item);
      case 1:
        return items.dayOf(item);
      case 2:
        return items.personsOf(item);
      case 3:
        return firstDueDay(item);
      case 4:
        return items.derivedFrom(item);
      default:
        return NONE;
    }
  }

  public int state(int what) {
    switch (what) {
      case 0:
        return purposes.total();
      case 1:
        return kinds.total();
      case 2:
        return items.total();
      case 3:
        return items.living();
      case 4:
        return log.total();
      case 5:
        return holds.total();
      default:
        return NONE;
    }
  }

  private static boolean isPerson(int person) {
    return person >= 0 && person < PERSONS;
  }

  private static boolean isMinute(int minute) {
    return minute >= 0 && minute <= LAST_MINUTE;
  }

  private static boolean isDay(int day) {
    return day >= 0 && day <= LAST_DAY;
  }

  private static boolean isSpanOfDays(int days) {
    return days >= 1 && days <= MOST_DAYS;
  }

  private boolean isMarkedKind(int of) {
    return of >= KIND_MARK && kinds.has(of - KIND_MARK);
  }

  private static int dayOfMinute(int minute) {
    return minute / MINUTES_OF_A_DAY;
  }

  private static boolean isAmong(int persons, int person) {
    return (persons >> person & 1) == 1;
  }

  private int groundOf(int item, int purpose, int minute) {
    int persons = items.personsOf(item);
    int kind = items.kindOf(item);
    int day = dayOfMinute(minute);
    if (!holds.coverPersons(persons, day)) {
      if (consents.allSayYes(persons, purpose, minute, purposes)) {
        return CONSENT;
      }
      if (contracts.allow(persons, purpose, minute, purposes)) {
        return CONTRACT;
      }
      if (duties.allow(kind, purpose, items.dayOf(item), day)) {
        return DUTY;
      }
    }
    return holds.allow(persons, kind, purpose, day) ? HOLD : NO_GROUND;
  }

  /** From the last item to the first, so that what is derived is settled before its inputs. */
  private void markKept(int day) {
    items.unmarkAll();
    for (int i = items.total() - 1; i >= 0; i--) {
      if (items.lives(i) && (items.isKept(i) || isCovered(i, day))) {
        items.keepWithInputs(i);
      }
    }
  }

  private boolean isCovered(int item, int day) {
    int kind = items.kindOf(item);
    return holds.cover(items.personsOf(item), kind, day)
        || duties.cover(kind, items.dayOf(item), day);
  }

  private int firstDueDay(int item) {
    if (!items.lives(item) || !items.isPut(item)) {
      return NONE;
    }
    int kind = items.kindOf(item);
    int latest = events.latestDay(items.personsOf(item), kind);
    if (latest == NONE || latest < items.dayOf(item)) {
      return NONE;
    }
    return latest + kinds.retentionOf(kind);
  }

  private static final class Purposes {
    private static final int MOST = 16;

    /** For each purpose, as bits, those at or above it. */
    private final int[] upward = new int[MOST];
    private int count;

    Purposes() {
      upward[0] = 1;
      count = 1;
    }

    int total() {
      return count;
    }

    boolean has(int purpose) {
      return purpose >= 0 && purpose < count;
    }

    int add(int parent) {
      if (count >= MOST || !has(parent)) {
        return NONE;
      }
      upward[count] = upward[parent] | 1 << count;
      count++;
      return count - 1;
    }

    boolean isAtOrAbove(int upper, int lower) {
      return has(upper) && has(lower) && (upward[lower] >> upper & 1) == 1;
    }
  }

  private static final class Kinds {
    private static final int MOST = 8;

    private final int[] retentions = new int[MOST];
    private int count;

    int total() {
      return count;
    }

    boolean has(int kind) {
      return kind >= 0 && kind < count;
    }

    int add(int retention) {
      if (count >= MOST) {
        return NONE;
      }
      retentions[count] = retention;
      count++;
      return count - 1;
    }

    int retentionOf(int kind) {
      return has(kind) ? retentions[kind] : 0;
    }
  }

  private static final class Consents {
    private static final int MOST = 100;

    private final int[] persons = new int[MOST];
    private final int[] purposes = new int[MOST];
    private final int[] minutes = new int[MOST];
    private final boolean[] answers = new boolean[MOST];
    private int count;

    int add(int person, int purpose, boolean yes, int minute) {
      if (count >= MOST) {
        return NONE;
      }
      persons[count] = person;
      purposes[count] = purpose;
      minutes[count] = minute;
      answers[count] = yes;
      count++;
      return count;
    }

    boolean allSayYes(int group, int purpose, int minute, Purposes tree) {
      for (int person = 0; person < PERSONS; person++) {
        if (isAmong(group, person) && !saysYes(person, purpose, minute, tree)) {
          return false;
        }
      }
      return true;
    }

    private boolean saysYes(int person, int purpose, int minute, Purposes tree) {
      int best = NONE;
      for (int i = 0; i < count; i++) {
        boolean counts = persons[i] == person && minutes[i] <= minute
            && tree.isAtOrAbove(purposes[i], purpose);
        if (counts && (best == NONE || outranks(i, best))) {
          best = i;
        }
      }
      return best != NONE && answers[best];
    }

    /** Of two purposes on one way to the root the greater number is the nearer: parents come first. */
    private boolean outranks(int later, int earlier) {
      if (purposes[later] != purposes[earlier]) {
        return purposes[later] > purposes[earlier];
      }
      return minutes[later] >= minutes[earlier];
    }
  }

  private static final class Contracts {
    private static final int MOST = 40;

    private final int[] persons = new int[MOST];
    private final int[] purposes = new int[MOST];
    private final int[] starts = new int[MOST];
    private final int[] ends = new int[MOST];
    private int count;

    int add(int person, int purpose, int from, int to) {
      if (count >= MOST) {
        return NONE;
      }
      persons[count] = person;
      purposes[count] = purpose;
      starts[count] = from;
      ends[count] = to;
      count++;
      return count;
    }

    boolean allow(int group, int purpose, int minute, Purposes tree) {
      for (int i = 0; i < count; i++) {
        if (isAmong(group, persons[i]) && starts[i] <= minute && minute <= ends[i]
            && tree.isAtOrAbove(purposes[i], purpose)) {
          return true;
        }
      }
      return false;
    }
  }

  private static final class Duties {
    private static final int MOST = 20;

    private final int[] kinds = new int[MOST];
    private final int[] purposes = new int[MOST];
    private final int[] spans = new int[MOST];
    private int count;

    int add(int kind, int purpose, int days) {
      if (count >= MOST) {
        return NONE;
      }
      kinds[count] = kind;
      purposes[count] = purpose;
      spans[count] = days;
      count++;
      return count;
    }

    boolean allow(int kind, int purpose, int itemDay, int day) {
      for (int i = 0; i < count; i++) {
        if (purposes[i] == purpose && covers(i, kind, itemDay, day)) {
          return true;
        }
      }
      return false;
    }

    boolean cover(int kind, int itemDay, int day) {
      for (int i = 0; i < count; i++) {
        if (covers(i, kind, itemDay, day)) {
          return true;
        }
      }
      return false;
    }

    private boolean covers(int duty, int kind, int itemDay, int day) {
      return kinds[duty] == kind && itemDay <= day && day < itemDay + spans[duty];
    }
  }

  private static final class Events {
    private static final int MOST = 60;

    private final int[] persons = new int[MOST];
    private final int[] kinds = new int[MOST];
    private final int[] days = new int[MOST];
    private int count;

    int add(int person, int kind, int day) {
      if (count >= MOST) {
        return NONE;
      }
      persons[count] = person;
      kinds[count] = kind;
      days[count] = day;
      count++;
      return count;
    }

    int latestDay(int group, int kind) {
      int latest = NONE;
      for (int i = 0; i < count; i++) {
        if (isAmong(group, persons[i]) && kinds[i] == kind) {
          latest = Math.max(latest, days[i]);
        }
      }
      return latest;
    }
  }

  private static final class Holds {
    private static final int MOST = 30;
    private static final int NOT_LIFTED = LAST_DAY + 1;

    private final int[] subjects = new int[MOST];
    private final int[] purposes = new int[MOST];
    private final int[] starts = new int[MOST];
    private final int[] ends = new int[MOST];
    private int count;

    int total() {
      return count;
    }

    boolean has(int hold) {
      return hold >= 0 && hold < count;
    }

    int add(int of, int purpose, int from) {
      if (count >= MOST) {
        return NONE;
      }
      subjects[count] = of;
      purposes[count] = purpose;
      starts[count] = from;
      ends[count] = NOT_LIFTED;
      count++;
      return count - 1;
    }

    int firstDayOf(int hold) {
      return has(hold) ? starts[hold] : NOT_LIFTED;
    }

    boolean isLifted(int hold) {
      return has(hold) && ends[hold] != NOT_LIFTED;
    }

    void endOn(int hold, int day) {
      if (has(hold)) {
        ends[hold] = day;
      }
    }

    boolean allow(int persons, int kind, int purpose, int day) {
      for (int i = 0; i < count; i++) {
        if (purposes[i] == purpose && covers(i, persons, kind, day)) {
          return true;
        }
      }
      return false;
    }

    boolean cover(int persons, int kind, int day) {
      for (int i = 0; i < count; i++) {
        if (covers(i, persons, kind, day)) {
          return true;
        }
      }
      return false;
    }

    boolean coverPersons(int persons, int day) {
      for (int i = 0; i < count; i++) {
        if (isOfPersons(i, persons) && runsOn(i, day)) {
          return true;
        }
      }
      return false;
    }

    private boolean covers(int hold, int persons, int kind, int day) {
      return runsOn(hold, day)
          && (isOfPersons(hold, persons) || subjects[hold] == KIND_MARK + kind);
    }

    private boolean runsOn(int hold, int day) {
      return starts[hold] <= day && day < ends[hold];
    }

    private boolean isOfPersons(int hold, int persons) {
      return isPerson(subjects[hold]) && isAmong(persons, subjects[hold]);
    }
  }

  private static final class Items {
    private static final int MOST = 100;
    private static final int PUT = -1;

    private final int[] kinds = new int[MOST];
    private final int[] days = new int[MOST];
    private final int[] persons = new int[MOST];
    private final int[] ways = new int[MOST];
    private final int[] firsts = new int[MOST];

    /** A copy's one input stands in both rows, so that no row needs a sign for "no input". */
    private final int[] seconds = new int[MOST];

    /** Kept up to date, so that no question has to go down a long chain of inputs. */
    private final long[] values = new long[MOST];
    private final boolean[] alive = new boolean[MOST];
    private final boolean[] kept = new boolean[MOST];
    private int count;
    private int livingCount;

    int total() {
      return count;
    }

    int living() {
      return livingCount;
    }

    private boolean has(int item) {
      return item >= 0 && item < count;
    }

    boolean lives(int item) {
      return has(item) && alive[item];
    }

    boolean isPut(int item) {
      return has(item) && ways[item] == PUT;
    }

    boolean isAbout(int item, int person) {
      return has(item) && isAmong(persons[item], person);
    }

    boolean isKept(int item) {
      return has(item) && kept[item];
    }

    int kindOf(int item) {
      return lives(item) ? kinds[item] : NONE;
    }

    int dayOf(int item) {
      return lives(item) ? days[item] : NONE;
    }

    int personsOf(int item) {
      return lives(item) ? persons[item] : 0;
    }

    long valueOf(int item) {
      return lives(item) ? values[item] : 0;
    }

    int addPut(int person, int kind, int value, int day) {
      int item = begin(kind, day, 1 << person);
      if (has(item)) {
        ways[item] = PUT;
        values[item] = value;
      }
      return item;
    }

    int addDerived(int how, int first, int second) {
      int item = begin(kindOf(first), Math.max(dayOf(first), dayOf(second)),
          personsOf(first) | personsOf(second));
      if (has(item)) {
        ways[item] = how;
        firsts[item] = first;
        seconds[item] = second;
        values[item] = derivedValue(item);
      }
      return item;
    }

    private int begin(int kind, int day, int group) {
      if (count >= MOST) {
        return NONE;
      }
      kinds[count] = kind;
      days[count] = day;
      persons[count] = group;
      alive[count] = true;
      livingCount++;
      count++;
      return count - 1;
    }

    private long derivedValue(int item) {
      long first = valueOf(firsts[item]);
      long second = valueOf(seconds[item]);
      switch (ways[item]) {
        case SUM:
          return first + second;
        case FLAG:
          return first > second ? 1 : 0;
        default:
          return first;
      }
    }

    int derivedFrom(int input) {
      int found = 0;
      for (int i = 0; i < count; i++) {
        if (alive[i] && ways[i] != PUT && (firsts[i] == input || seconds[i] == input)) {
          found++;
        }
      }
      return found;
    }

    void unmarkAll() {
      for (int i = 0; i < count; i++) {
        kept[i] = false;
      }
    }

    void keepWithInputs(int item) {
      keep(item);
      if (has(item) && ways[item] != PUT) {
        keep(firsts[item]);
        keep(seconds[item]);
      }
    }

    private void keep(int item) {
      if (has(item)) {
        kept[item] = true;
      }
    }

    void endUnlessKept(int item) {
      if (!isKept(item)) {
        end(item);
      }
    }

    private void end(int item) {
      if (lives(item)) {
        alive[item] = false;
        values[item] = 0;
        livingCount--;
      }
    }

    /** From the first item to the last, so that inputs are settled before what is derived. */
    void followInputs() {
      for (int i = 0; i < count; i++) {
        if (alive[i] && ways[i] != PUT) {
          if (hasLostInputs(i)) {
            end(i);
          } else {
            values[i] = derivedValue(i);
          }
        }
      }
    }

    private boolean hasLostInputs(int item) {
      boolean first = lives(firsts[item]);
      boolean second = lives(seconds[item]);
      return ways[item] == SUM ? !first && !second : !first || !second;
    }
  }

  private static final class Log {
    private static final int MOST = 200;

    private final int[] items = new int[MOST];
    private final int[] purposes = new int[MOST];
    private final int[] minutes = new int[MOST];
    private final int[] grounds = new int[MOST];
    private int count;

    int total() {
      return count;
    }

    void add(int item, int purpose, int minute, int ground) {
      if (count >= MOST) {
        return;
      }
      items[count] = item;
      purposes[count] = purpose;
      minutes[count] = minute;
      grounds[count] = ground;
      count++;
    }

    int read(int i, int what) {
      if (i < 0 || i >= count) {
        return NONE;
      }
      switch (what) {
        case 0:
          return items[i];
        case 1:
          return purposes[i];
        case 2:
          return minutes[i];
        case 3:
          return grounds[i];
        default:
          return NONE;
      }
    }
  }
}
