import java.util.ArrayList;

/**
 * Rights: users in a tree of groups, resources in classes guarded by profiles of exact and generic
 * names, the most special one counting, lists with conditions by terminal and hour, passwords with
 * tries, warning, audit.
 */
public final class ProfileRights {
    public static final int NONE = -1;

    private static final int MOST_GROUPS = 20;
    private static final int MOST_USERS = 40;
    private static final int MOST_PROFILES = 60;
    private static final int MOST_CHARACTERS = 20;
    private static final int MOST_ENTRIES = 10;
    private static final int MOST_ROWS = 200;

    private static final int CLASSES = 8;
    private static final int HIGHEST_TERMINAL = 99;
    private static final int ANY_TERMINAL = 0;
    private static final int ALL_TRIES = 3;

    private static final int MODE_OFF = 0;
    private static final int MODE_STRICT = 2;

    private static final int LEVEL_NONE = 0;
    private static final int LEVEL_READ = 1;
    private static final int LEVEL_ALTER = 4;

    private static final int MARK_WARNING = 1;
    private static final int MARK_AUDITED = 2;
    private static final int MARK_GLOBAL = 4;
    private static final int ALL_MARKS = 7;

    private static final int FIRST_CHARACTER = 33;
    private static final int LAST_CHARACTER = 126;
    private static final int ANY_ONE = '%';
    private static final int ANY_ROW = '*';

    private static final int MINUTES_OF_HOUR = 60;
    private static final int HOURS_OF_DAY = 24;
    private static final int ALL_HOURS = (1 << HOURS_OF_DAY) - 1;

    private static final int NO = 0;
    private static final int YES = 1;
    private static final int WARNED = 2;
    // Told apart from YES inside only: it is a yes that goes into the audit.
    private static final int AUDITED_YES = 3;

    private final ArrayList<Group> groups;
    private final ArrayList<User> users;
    private final ArrayList<Profile> profiles;
    private final int[] modes;
    private final Name asked;
    private final Trail trail;
    private int latestProfile;

    public ProfileRights() {
        groups = new ArrayList<>();
        users = new ArrayList<>();
        profiles = new ArrayList<>();
        modes = new int[CLASSES];
        asked = new Name();
        trail = new Trail();
        latestProfile = 0;
    }

    public int group(int above) throws IllegalArgumentException, IllegalStateException {
        Group upper = groupOrNone(above);
        if (groups.size() >= MOST_GROUPS) {
            throw new IllegalStateException("no more groups");
        }
        groups.add(new Group(groups.size() + 1, upper));
        return groups.size();
    }

    public int move(int group, int above) throws IllegalArgumentException {
        Group moved = groupAt(group);
        Group upper = groupOrNone(above);
        if (isWithin(upper, moved)) {
            return 0;
        }
        moved.upper = upper;
        return 1;
    }

    public int user(int group) throws IllegalArgumentException, IllegalStateException {
        Group home = groupAt(group);
        if (users.size() >= MOST_USERS) {
            throw new IllegalStateException("no more users");
        }
        users.add(new User(users.size() + 1, home));
        return users.size();
    }

    public int terminal(int user, int terminal) throws IllegalArgumentException {
        User comer = userAt(user);
        testTerminal(terminal);
        int before = comer.place;
        comer.place = terminal;
        return before;
    }

    public int revoke(int user, boolean on) throws IllegalArgumentException {
        User subject = userAt(user);
        if (subject.revoked == on) {
            return 0;
        }
        subject.revoked = on;
        if (!on) {
            subject.tries = ALL_TRIES;
        }
        return 1;
    }

    public int pass(int user, boolean good) throws IllegalArgumentException {
        User teller = userAt(user);
        if (teller.revoked) {
            return NONE;
        }
        teller.tries = good ? ALL_TRIES : teller.tries - 1;
        teller.revoked = teller.tries <= 0;
        return teller.tries;
    }

    public int mode(int cls, int m) throws IllegalArgumentException {
        testClass(cls);
        if (m < MODE_OFF || m > MODE_STRICT) {
            throw new IllegalArgumentException("no such mode");
        }
        int before = modes[cls];
        modes[cls] = m;
        return before;
    }

    public int profile(int cls, int owner) throws IllegalArgumentException, IllegalStateException {
        testClass(cls);
        // An owner gives no right and no call tells it, so that it is tested and not kept.
        userAt(owner);
        if (profiles.size() >= MOST_PROFILES) {
            throw new IllegalStateException("no more profiles");
        }
        profiles.add(new Profile(profiles.size() + 1, cls));
        return profiles.size();
    }

    public int name(int profile, int c) throws IllegalArgumentException, IllegalStateException {
        Name pattern = profileAt(profile).pattern;
        if (!isCharacter(c)) {
            throw new IllegalArgumentException("no such character");
        }
        if (pattern.isFull()) {
            throw new IllegalStateException("the name is full");
        }
        pattern.append(c);
        return pattern.length;
    }

    public int universal(int profile, int level, int marks) throws IllegalArgumentException {
        Profile changed = profileAt(profile);
        testLevel(level, LEVEL_NONE);
        if (marks < 0 || marks > ALL_MARKS) {
            throw new IllegalArgumentException("no such marks");
        }
        int before = 8 * changed.universalLevel + changed.marks;
        changed.universalLevel = level;
        changed.marks = marks;
        return before;
    }

    public int permit(int profile, int who, int level)
            throws IllegalArgumentException, IllegalStateException {
        Profile changed = profileAt(profile);
        testHolder(who);
        testLevel(level, NONE);
        Entry entry = changed.entryOf(who);
        int before = entry == null ? NONE : entry.level;
        if (level == NONE) {
            changed.dropEntry(who);
        } else if (entry != null) {
            entry.level = level;
        } else if (changed.isFull()) {
            throw new IllegalStateException("the list is full");
        } else {
            changed.entries.add(new Entry(who, level));
        }
        return before;
    }

    public int condition(int profile, int who, int terminal, int hours)
            throws IllegalArgumentException {
        Profile changed = profileAt(profile);
        testHolder(who);
        testTerminal(terminal);
        Entry entry = changed.entryOf(who);
        if (entry == null) {
            return 0;
        }
        entry.place = terminal;
        entry.hours = hours & ALL_HOURS;
        return 1;
    }

    public int ask(int c) {
        if (isCharacter(c)) {
            asked.append(c);
        } else {
            asked.clear();
        }
        return asked.length;
    }

    public int may(int user, int cls, int level, long t) throws IllegalArgumentException {
        User actor = userAt(user);
        testClass(cls);
        testLevel(level, LEVEL_READ);
        if (t < 0) {
            throw new IllegalArgumentException("a time below 0");
        }
        int hour = (int) (t / MINUTES_OF_HOUR % HOURS_OF_DAY);
        int verdict = decide(actor, cls, level, hour);
        int answer = verdict == AUDITED_YES ? YES : verdict;
        if (verdict != YES) {
            trail.write(user, cls, level, answer, latestProfile);
        }
        asked.clear();
        return answer;
    }

    public int matched() {
        return latestProfile;
    }

    public int audit(int i, int what) {
        return trail.read(i, what);
    }

    public int who(int profile, int i) throws IllegalArgumentException {
        ArrayList<Entry> entries = profileAt(profile).entries;
        return i < 0 || i >= entries.size() ? 0 : entries.get(i).holder;
    }

    public boolean acts(int user, int other) throws IllegalArgumentException {
        User actor = userAt(user);
        User stoodFor = userAt(other);
        return actor == stoodFor || actor.standsFor(stoodFor);
    }

    public int surrogate(int user, int other, boolean on) throws IllegalArgumentException {
        User actor = userAt(user);
        User stoodFor = userAt(other);
        if (actor == stoodFor || actor.standsFor(stoodFor) == on) {
            return 0;
        }
        actor.toggleStandingFor(stoodFor);
        return 1;
    }

    public int count(int what) {
        switch (what) {
            case 0: return groups.size();
            case 1: return users.size();
            case 2: return profiles.size();
            case 3: return trail.written;
            case 4: return countRevoked();
            case 5: return countEntries();
            default: return NONE;
        }
    }

    private Group groupAt(int number) {
        if (number < 1 || number > groups.size()) {
            throw new IllegalArgumentException("no such group");
        }
        return groups.get(number - 1);
    }

    private Group groupOrNone(int number) {
        return number == 0 ? null : groupAt(number);
    }

    private User userAt(int number) {
        if (number < 1 || number > users.size()) {
            throw new IllegalArgumentException("no such user");
        }
        return users.get(number - 1);
    }

    private Profile profileAt(int number) {
        if (number < 1 || number > profiles.size()) {
            throw new IllegalArgumentException("no such profile");
        }
        return profiles.get(number - 1);
    }

    /** The least int has no positive counterpart: its negation stays below 1 and is refused. */
    private void testHolder(int who) {
        if (who > 0) {
            userAt(who);
        } else {
            groupAt(-who);
        }
    }

    private static void testClass(int cls) {
        if (cls < 0 || cls >= CLASSES) {
            throw new IllegalArgumentException("no such class");
        }
    }

    private static void testTerminal(int terminal) {
        if (terminal < 0 || terminal > HIGHEST_TERMINAL) {
            throw new IllegalArgumentException("no such terminal");
        }
    }

    private static void testLevel(int level, int lowest) {
        if (level < lowest || level > LEVEL_ALTER) {
            throw new IllegalArgumentException("no such level");
        }
    }

    private static boolean isCharacter(int c) {
        return c >= FIRST_CHARACTER && c <= LAST_CHARACTER;
    }

    /** Whether a group is another one or lies below it; no group lies below none. */
    private static boolean isWithin(Group group, Group other) {
        for (Group g = group; g != null; g = g.upper) {
            if (g == other) {
                return true;
            }
        }
        return false;
    }

    private int decide(User actor, int cls, int level, int hour) {
        latestProfile = 0;
        if (actor.revoked) {
            return NO;
        }
        if (modes[cls] == MODE_OFF) {
            return YES;
        }
        Profile opener = mostSpecial(cls, level, true);
        if (opener != null) {
            latestProfile = opener.number;
            return YES;
        }
        Profile guard = mostSpecial(cls, level, false);
        if (guard == null) {
            return modes[cls] == MODE_STRICT ? NO : YES;
        }
        latestProfile = guard.number;
        if (guard.levelOf(actor, hour) >= level) {
            return guard.bears(MARK_AUDITED) ? AUDITED_YES : YES;
        }
        return guard.bears(MARK_WARNING) ? WARNED : NO;
    }

    /** Of the class's profiles that fit the asked name, or only of those open to all at the level. */
    private Profile mostSpecial(int cls, int level, boolean openToAll) {
        Profile best = null;
        for (int i = 0; i < profiles.size(); i++) {
            Profile next = profiles.get(i);
            if (next.cls != cls || openToAll && !next.isOpenToAll(level)
                    || !next.pattern.fits(asked)) {
                continue;
            }
            // They come by rising number: of equals the lesser number stays.
            if (best == null || next.pattern.isMoreSpecialThan(best.pattern)) {
                best = next;
            }
        }
        return best;
    }

    private int countRevoked() {
        int revoked = 0;
        for (int i = 0; i < users.size(); i++) {
            if (users.get(i).revoked) {
                revoked++;
            }
        }
        return revoked;
    }

    private int countEntries() {
        int entries = 0;
        for (int i = 0; i < profiles.size(); i++) {
            entries += profiles.get(i).entries.size();
        }
        return entries;
    }

    private static final class Group {
        final int number;
        Group upper;

        Group(int number, Group upper) {
            this.number = number;
            this.upper = upper;
        }
    }

    private static final class User {
        final int number;
        final Group home;
        int place;
        int tries;
        boolean revoked;
        // Bit n: may act for the user of number n. There are at most 40 of them.
        long stoodFor;

        User(int number, Group home) {
            this.number = number;
            this.home = home;
            place = 0;
            tries = ALL_TRIES;
            revoked = false;
            stoodFor = 0L;
        }

        boolean standsFor(User other) {
            return (stoodFor >> other.number & 1L) != 0L;
        }

        void toggleStandingFor(User other) {
            stoodFor ^= 1L << other.number;
        }
    }

    /** A row of characters. In a profile's name % and * are generic, in an asked one they are not. */
    private static final class Name {
        final int[] characters;
        int length;
        int special;
        int ahead;

        Name() {
            characters = new int[MOST_CHARACTERS];
            length = 0;
            special = 0;
            ahead = 0;
        }

        boolean isFull() {
            return length >= MOST_CHARACTERS;
        }

        void append(int c) {
            if (isFull()) {
                return;
            }
            if (c != ANY_ONE && c != ANY_ROW) {
                ahead += isExact() ? 1 : 0;
                special++;
            }
            characters[length] = c;
            length++;
        }

        void clear() {
            length = 0;
            special = 0;
            ahead = 0;
        }

        boolean isExact() {
            return special == length;
        }

        boolean isMoreSpecialThan(Name other) {
            if (isExact() != other.isExact()) {
                return isExact();
            }
            if (ahead != other.ahead) {
                return ahead > other.ahead;
            }
            return special > other.special;
        }

        /**
         * Bit k of reached: what has been read of this name can stand for the first k characters of
         * the asked one. So one pass over this name does, without trying back.
         */
        boolean fits(Name wanted) {
            int inside = (1 << (wanted.length + 1)) - 1;
            int reached = 1;
            for (int i = 0; i < length && reached != 0; i++) {
                reached = reachedBehind(characters[i], reached, wanted) & inside;
            }
            return (reached >> wanted.length & 1) != 0;
        }

        private static int reachedBehind(int c, int reached, Name wanted) {
            if (c == ANY_ROW) {
                // The lowest set bit and all above it.
                return reached | -reached;
            }
            if (c == ANY_ONE) {
                return reached << 1;
            }
            return (reached & wanted.placesOf(c)) << 1;
        }

        private int placesOf(int c) {
            int places = 0;
            for (int i = 0; i < length; i++) {
                if (characters[i] == c) {
                    places |= 1 << i;
                }
            }
            return places;
        }
    }

    private static final class Entry {
        // As in permit(): a user's number, or a group's below 0.
        final int holder;
        int level;
        int place;
        int hours;

        Entry(int holder, int level) {
            this.holder = holder;
            this.level = level;
            place = ANY_TERMINAL;
            hours = ALL_HOURS;
        }

        boolean isOpen(User user, int hour) {
            return (place == ANY_TERMINAL || place == user.place) && (hours >> hour & 1) != 0;
        }
    }

    private static final class Profile {
        final int number;
        final int cls;
        final Name pattern;
        final ArrayList<Entry> entries;
        int universalLevel;
        int marks;

        Profile(int number, int cls) {
            this.number = number;
            this.cls = cls;
            pattern = new Name();
            entries = new ArrayList<>();
            universalLevel = LEVEL_NONE;
            marks = 0;
        }

        boolean bears(int mark) {
            return (marks & mark) != 0;
        }

        boolean isOpenToAll(int level) {
            return bears(MARK_GLOBAL) && universalLevel >= level;
        }

        boolean isFull() {
            return entries.size() >= MOST_ENTRIES;
        }

        Entry entryOf(int holder) {
            for (int i = 0; i < entries.size(); i++) {
                if (entries.get(i).holder == holder) {
                    return entries.get(i);
                }
            }
            return null;
        }

        void dropEntry(int holder) {
            for (int i = 0; i < entries.size(); i++) {
                if (entries.get(i).holder == holder) {
                    entries.remove(i);
                    return;
                }
            }
        }

        int levelOf(User user, int hour) {
            Entry entry = openEntryOf(user.number, user, hour);
            for (Group g = user.home; g != null && entry == null; g = g.upper) {
                entry = openEntryOf(-g.number, user, hour);
            }
            return entry == null ? universalLevel : entry.level;
        }

        private Entry openEntryOf(int holder, User user, int hour) {
            Entry entry = entryOf(holder);
            return entry != null && entry.isOpen(user, hour) ? entry : null;
        }
    }

    /** The audit: it counts all rows and keeps the first ones. */
    private static final class Trail {
        static final int COLUMNS = 5;

        final int[] cells;
        int kept;
        int written;

        Trail() {
            cells = new int[MOST_ROWS * COLUMNS];
            kept = 0;
            written = 0;
        }

        void write(int user, int cls, int level, int answer, int profile) {
            written++;
            if (kept >= MOST_ROWS) {
                return;
            }
            int first = kept * COLUMNS;
            cells[first] = user;
            cells[first + 1] = cls;
            cells[first + 2] = level;
            cells[first + 3] = answer;
            cells[first + 4] = profile;
            kept++;
        }

        int read(int row, int column) {
            if (row < 0 || row >= kept || column < 0 || column >= COLUMNS) {
                return NONE;
            }
            return cells[row * COLUMNS + column];
        }
    }
}
