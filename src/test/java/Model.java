import java.util.ArrayDeque;
import java.util.ArrayList;
import java.util.Arrays;
import java.util.BitSet;
import java.util.HashMap;
import java.util.HashSet;
import java.util.LinkedHashMap;
import java.util.LinkedHashSet;
import java.util.List;
import java.util.Map;
import java.util.NoSuchElementException;
import java.util.Set;
import java.util.TreeMap;
import java.util.TreeSet;

/** A second hall, told as the document tells it and as slow as it likes; tests hold the class against it. */
final class Model {
    static final int NONE = -1;

    static final String[] EXAMPLES = {
        "loop x a>b{0:b>c{1:x},2:b>c{3:end}}",
        "a>b{0:a>c{0:b>c{1:end}},1:a>c{1:c>b{2:end}}}",
        "a>b{0:b>c{1:end},1:c>b{2:end}}",
        "(a>b{0:end}|loop y c>d{1:y,2:d>c{3:end}})",
        "loop x a>b{0:b>a{1:x,2:end},3:b>a{4:end}}"
    };

    /** An error of a text, with its position. */
    static final class TextError extends RuntimeException {
        final int position;

        TextError(int position) {
            this.position = position;
        }
    }

    record Token(String text, int at) { }

    /** A place of a whole. */
    static final class Place {
        char sort;
        int from = NONE;
        int to = NONE;
        final TreeMap<Integer, Place> next = new TreeMap<>();
    }

    /** A state of a part. */
    static final class State {
        char sort = 'E';
        int other = NONE;
        final TreeMap<Integer, Integer> next = new TreeMap<>();

        @Override
        public String toString() {
            return sort + " " + other + " " + next;
        }
    }

    record Part(int role, List<State> states) {
        Set<Integer> others() {
            Set<Integer> others = new TreeSet<>();
            for (State state : states) {
                if (state.sort != 'E') {
                    others.add(state.other);
                }
            }
            return others;
        }
    }

    /** A whole cannot be cut for a role. */
    static final class Uncut extends RuntimeException {
        final int role;
        final int first;
        final int second;

        Uncut(int role, int first, int second) {
            this.role = role;
            this.first = first;
            this.second = second;
        }
    }

    // ---- reading

    static List<Token> tokens(String text) {
        List<Token> tokens = new ArrayList<>();
        int at = 0;
        while (at < text.length()) {
            char c = text.charAt(at);
            if (c == ' ' || c == '\n') {
                at++;
                continue;
            }
            int end = at + 1;
            if (c >= 'a' && c <= 'z') {
                while (end < text.length() && text.charAt(end) >= 'a' && text.charAt(end) <= 'z') {
                    end++;
                }
            } else if (c >= '0' && c <= '9') {
                if (end < text.length() && text.charAt(end) >= '0' && text.charAt(end) <= '9') {
                    tokens.add(new Token("?", at));
                    break;
                }
            } else if ("(){},:>|".indexOf(c) < 0) {
                tokens.add(new Token("?", at));
                break;
            }
            tokens.add(new Token(text.substring(at, end), at));
            at = end;
        }
        tokens.add(new Token("", text.length()));
        return tokens;
    }

    /** A loop that is open, from the inside out. */
    static final class Open {
        final String name;
        boolean guarded;
        Place place;

        Open(String name) {
            this.name = name;
        }
    }

    static final class Parser {
        final List<Token> tokens;
        int now = 0;
        int opened = 0;
        ArrayDeque<Open> loops = new ArrayDeque<>();
        final ArrayDeque<Set<String>> barred = new ArrayDeque<>();
        final ArrayDeque<Set<String>> noted = new ArrayDeque<>();
        final Place end = new Place();

        Parser(String text) {
            tokens = Model.tokens(text);
            end.sort = 'E';
        }

        String look() {
            return tokens.get(now).text();
        }

        void need(boolean right) {
            if (!right) {
                throw new TextError(tokens.get(now).at());
            }
        }

        void take(String sign) {
            need(look().equals(sign));
            now++;
        }

        Place all() {
            Place first = whole();
            need(look().isEmpty());
            return first;
        }

        Open openLoop(String name) {
            for (Open loop : loops) {
                if (loop.name.equals(name)) {
                    return loop;
                }
            }
            return null;
        }

        Place whole() {
            String word = look();
            if (word.equals("end")) {
                now++;
                return end;
            }
            if (word.matches("[xyz]")) {
                Open loop = openLoop(word);
                need(loop != null && loop.guarded);
                now++;
                return loop.place;
            }
            if (word.equals("loop")) {
                return loop();
            }
            if (word.equals("(")) {
                return beside();
            }
            return letter();
        }

        Place loop() {
            need(opened < 12);
            opened++;
            now++;
            String name = look();
            need(name.matches("[xyz]") && openLoop(name) == null);
            now++;
            loops.push(new Open(name));
            Place place = whole();
            loops.pop();
            opened--;
            return place;
        }

        int role() {
            String word = look();
            need(word.matches("[a-f]"));
            for (Set<String> roles : barred) {
                need(!roles.contains(word));
            }
            return word.charAt(0) - 'a';
        }

        void note(String word) {
            for (Set<String> roles : noted) {
                roles.add(word);
            }
        }

        Place letter() {
            Place place = new Place();
            place.sort = 'L';
            place.from = role();
            note(look());
            now++;
            take(">");
            for (Open loop : loops) {
                if (!loop.guarded) {
                    loop.guarded = true;
                    loop.place = place;
                }
            }
            place.to = role();
            need(place.to != place.from);
            note(look());
            now++;
            need(look().equals("{") && opened < 12);
            opened++;
            now++;
            while (true) {
                need(look().matches("[0-9]"));
                int kind = Integer.parseInt(look());
                need(!place.next.containsKey(kind));
                now++;
                take(":");
                place.next.put(kind, null);
                place.next.put(kind, whole());
                if (!look().equals(",")) {
                    break;
                }
                now++;
            }
            take("}");
            opened--;
            return place;
        }

        Place beside() {
            need(opened < 12);
            opened++;
            now++;
            ArrayDeque<Open> outside = loops;
            loops = new ArrayDeque<>();
            Place place = new Place();
            place.sort = 'B';
            noted.push(new HashSet<>());
            place.next.put(0, whole());
            barred.push(noted.pop());
            take("|");
            place.next.put(1, whole());
            barred.pop();
            take(")");
            loops = outside;
            opened--;
            return place;
        }
    }

    // ---- wholes

    static final class Whole {
        final List<Place> places = new ArrayList<>();

        Whole(Place first) {
            places.add(first);
            for (int i = 0; i < places.size(); i++) {
                for (Place next : places.get(i).next.values()) {
                    if (!places.contains(next)) {
                        places.add(next);
                    }
                }
            }
        }

        int number(Place place) {
            return places.indexOf(place);
        }

        Set<Integer> roles() {
            Set<Integer> roles = new TreeSet<>();
            for (Place place : places) {
                if (place.sort == 'L') {
                    roles.add(place.from);
                    roles.add(place.to);
                }
            }
            return roles;
        }

        Set<Place> from(Place place) {
            Set<Place> reached = new LinkedHashSet<>();
            ArrayDeque<Place> open = new ArrayDeque<>();
            open.add(place);
            while (!open.isEmpty()) {
                Place now = open.poll();
                if (reached.add(now)) {
                    open.addAll(now.next.values());
                }
            }
            return reached;
        }

        static boolean isOf(Place place, int role) {
            return place.sort == 'L' && (place.from == role || place.to == role);
        }

        boolean standsFrom(Place place, int role) {
            for (Place one : from(place)) {
                if (isOf(one, role)) {
                    return true;
                }
            }
            return false;
        }

        /** The places that count as END for a role. */
        TreeSet<Integer> ends(int role) {
            TreeSet<Integer> ends = new TreeSet<>();
            for (int i = 0; i < places.size(); i++) {
                Place place = places.get(i);
                boolean stands = standsFrom(place, role);
                boolean toEnd = false;
                for (Place one : from(place)) {
                    toEnd |= one.sort == 'E';
                }
                if (place.sort == 'E' || place.sort == 'B' && !stands || !toEnd && !stands) {
                    ends.add(i);
                }
            }
            return ends;
        }

        TreeSet<Integer> replaced(TreeSet<Integer> set, int role, TreeSet<Integer> ends) {
            TreeSet<Integer> left = new TreeSet<>();
            Set<Integer> done = new HashSet<>();
            ArrayDeque<Integer> open = new ArrayDeque<>(set);
            while (!open.isEmpty()) {
                int number = open.poll();
                if (!done.add(number)) {
                    continue;
                }
                Place place = places.get(number);
                if (ends.contains(number)) {
                    left.add(ends.first());
                } else if (isOf(place, role)) {
                    left.add(number);
                } else if (place.sort == 'B') {
                    int side = standsFrom(place.next.get(0), role) ? 0 : 1;
                    open.add(number(place.next.get(side)));
                } else {
                    for (Place next : place.next.values()) {
                        open.add(number(next));
                    }
                }
            }
            return left;
        }

        boolean together(int one, int two, int role, TreeSet<Integer> ends) {
            if (ends.contains(one) || ends.contains(two)) {
                return false;
            }
            Place p = places.get(one);
            Place q = places.get(two);
            if (p.from == role && q.from == role) {
                return p.to == q.to && p.next.keySet().equals(q.next.keySet());
            }
            return p.to == role && q.to == role && p.from == q.from;
        }

        /** The part of a role; throws Uncut if there is none. */
        Part part(int role) {
            List<State> states = new ArrayList<>();
            if (!roles().contains(role)) {
                states.add(new State());
                return new Part(role, states);
            }
            TreeSet<Integer> ends = ends(role);
            List<TreeSet<Integer>> sets = new ArrayList<>();
            Map<TreeSet<Integer>, Integer> numbers = new HashMap<>();
            sets.add(replaced(new TreeSet<>(Set.of(0)), role, ends));
            numbers.put(sets.get(0), 0);
            for (int i = 0; i < sets.size(); i++) {
                TreeSet<Integer> set = sets.get(i);
                for (int one : set) {
                    for (int two : set) {
                        if (one != two && !together(one, two, role, ends)) {
                            throw new Uncut(role, one, two);
                        }
                    }
                }
                State state = new State();
                states.add(state);
                if (ends.contains(set.first())) {
                    continue;
                }
                Place first = places.get(set.first());
                state.sort = first.from == role ? 'S' : 'H';
                state.other = first.from == role ? first.to : first.from;
                for (int kind = 0; kind <= 9; kind++) {
                    TreeSet<Integer> next = new TreeSet<>();
                    for (int number : set) {
                        Place place = places.get(number).next.get(kind);
                        if (place != null) {
                            next.add(number(place));
                        }
                    }
                    if (!next.isEmpty()) {
                        TreeSet<Integer> behind = replaced(next, role, ends);
                        if (numbers.putIfAbsent(behind, sets.size()) == null) {
                            sets.add(behind);
                        }
                        state.next.put(kind, numbers.get(behind));
                    }
                }
            }
            return new Part(role, states);
        }

        /** Why it cannot be cut; null if it can be. */
        Uncut why() {
            for (int role : roles()) {
                try {
                    part(role);
                } catch (Uncut uncut) {
                    return uncut;
                }
            }
            return null;
        }

        Map<Integer, Part> parts() {
            Map<Integer, Part> parts = new LinkedHashMap<>();
            for (int role : roles()) {
                parts.put(role, part(role));
            }
            return parts;
        }
    }

    // ---- parts against one another

    static Part mirrorOf(Part part) {
        List<State> states = new ArrayList<>();
        for (State state : part.states()) {
            State turned = new State();
            turned.sort = state.sort == 'S' ? 'H' : state.sort == 'H' ? 'S' : 'E';
            turned.other = state.sort == 'E' ? NONE : part.role();
            turned.next.putAll(state.next);
            states.add(turned);
        }
        return new Part(part.others().iterator().next(), states);
    }

    static boolean canBeBelow(State one, State two) {
        if (one.sort != two.sort || one.other != two.other) {
            return false;
        }
        return switch (one.sort) {
            case 'S' -> two.next.keySet().containsAll(one.next.keySet());
            case 'H' -> one.next.keySet().containsAll(two.next.keySet());
            default -> true;
        };
    }

    /** Two states that a row of kinds leads to: the last kind, and what the row ahead of it leads to. */
    record Pair(int one, int two, Pair before, int kind) {
        List<Integer> row() {
            ArrayDeque<Integer> row = new ArrayDeque<>();
            for (Pair pair = this; pair.before != null; pair = pair.before) {
                row.addFirst(pair.kind);
            }
            return new ArrayList<>(row);
        }
    }

    /** The shortest row, the first by kinds, that shows that a part is not below; null if it is. */
    static List<Integer> shown(Part one, Part two) {
        ArrayDeque<Pair> open = new ArrayDeque<>();
        Set<Long> met = new HashSet<>();
        met.add(0L);
        open.add(new Pair(0, 0, null, NONE));
        while (!open.isEmpty()) {
            Pair pair = open.poll();
            State s = one.states().get(pair.one);
            State t = two.states().get(pair.two);
            if (!canBeBelow(s, t)) {
                return pair.row();
            }
            for (int kind = 0; kind <= 9; kind++) {
                if (s.next.containsKey(kind) && t.next.containsKey(kind)) {
                    Pair behind = new Pair(s.next.get(kind), t.next.get(kind), pair, kind);
                    if (met.add((long) behind.one << 32 | behind.two)) {
                        open.add(behind);
                    }
                }
            }
        }
        return null;
    }

    // ---- runs

    /** States of roles and letters on the way. */
    static final class Configuration {
        final Map<Integer, Integer> states = new TreeMap<>();
        final Map<List<Integer>, List<Integer>> queues = new HashMap<>();

        Configuration copy() {
            Configuration copy = new Configuration();
            copy.states.putAll(states);
            for (Map.Entry<List<Integer>, List<Integer>> entry : queues.entrySet()) {
                copy.queues.put(entry.getKey(), new ArrayList<>(entry.getValue()));
            }
            return copy;
        }

        List<Integer> queue(int from, int to) {
            return queues.computeIfAbsent(List.of(from, to), key -> new ArrayList<>());
        }

        List<Object> key() {
            TreeMap<String, List<Integer>> filled = new TreeMap<>();
            for (Map.Entry<List<Integer>, List<Integer>> entry : queues.entrySet()) {
                if (!entry.getValue().isEmpty()) {
                    filled.put(entry.getKey().toString(), entry.getValue());
                }
            }
            return List.of(new TreeMap<>(states), filled);
        }

        boolean letterLeft() {
            for (List<Integer> queue : queues.values()) {
                if (!queue.isEmpty()) {
                    return true;
                }
            }
            return false;
        }
    }

    static final class Run {
        final Map<Integer, Part> parts = new TreeMap<>();
        int bound;
        Configuration at = new Configuration();
        int sent = 0;
        Map<Integer, Integer> watched = new TreeMap<>();
        int right = 0;
        int fault = NONE;

        Run copy() {
            Run copy = new Run();
            copy.parts.putAll(parts);
            copy.bound = bound;
            copy.at = at.copy();
            copy.sent = sent;
            copy.watched = new TreeMap<>(watched);
            copy.right = right;
            copy.fault = fault;
            return copy;
        }

        void anew() {
            at = first();
            watched = new TreeMap<>(at.states);
            right = 0;
            fault = NONE;
        }

        Configuration first() {
            Configuration first = new Configuration();
            for (int role : parts.keySet()) {
                first.states.put(role, 0);
            }
            return first;
        }

        State state(Configuration c, int role) {
            return parts.get(role).states().get(c.states.get(role));
        }

        boolean isOver(Configuration c) {
            for (int role : parts.keySet()) {
                if (state(c, role).sort != 'E') {
                    return false;
                }
            }
            return true;
        }

        /** All steps that a configuration allows, in order. */
        List<Configuration> steps(Configuration c, int most) {
            List<Configuration> steps = new ArrayList<>();
            for (int role : parts.keySet()) {
                State state = state(c, role);
                for (int kind : state.next.keySet()) {
                    Configuration then = c.copy();
                    then.states.put(role, state.next.get(kind));
                    if (state.sort == 'S' && c.queue(role, state.other).size() < most) {
                        then.queue(role, state.other).add(kind);
                        steps.add(then);
                    }
                    if (state.sort == 'H' && !c.queue(state.other, role).isEmpty()
                            && c.queue(state.other, role).get(0) == kind) {
                        then.queue(state.other, role).remove(0);
                        steps.add(then);
                    }
                }
            }
            return steps;
        }
    }

    static final class Found {
        int count;
        int stuck = NONE;
        int unknown = NONE;
        int left = NONE;
        int hindered = 0;
        final List<Integer> ring = new ArrayList<>();
    }

    /** All runs; null if there are more than 600 configurations. */
    static Found lookThrough(Run run, int bound) {
        Found found = new Found();
        Map<List<Object>, Integer> depth = new HashMap<>();
        ArrayDeque<Configuration> open = new ArrayDeque<>();
        Configuration first = run.first();
        depth.put(first.key(), 0);
        open.add(first);
        while (!open.isEmpty()) {
            Configuration c = open.poll();
            int steps = depth.get(c.key());
            for (int role : run.parts.keySet()) {
                State state = run.state(c, role);
                if (state.sort == 'S' && c.queue(role, state.other).size() >= bound) {
                    found.hindered = 1;
                }
                if (state.sort == 'H') {
                    List<Integer> queue = c.queue(state.other, role);
                    if (!queue.isEmpty() && !state.next.containsKey(queue.get(0))
                            && found.unknown == NONE) {
                        found.unknown = steps;
                    }
                }
            }
            List<Configuration> following = run.steps(c, bound);
            if (run.isOver(c)) {
                if (c.letterLeft() && found.left == NONE) {
                    found.left = steps;
                }
            } else if (following.isEmpty() && found.stuck == NONE) {
                found.stuck = steps;
                ring(run, c, found.ring);
            }
            for (Configuration then : following) {
                if (depth.putIfAbsent(then.key(), steps + 1) == null) {
                    open.add(then);
                }
            }
            if (depth.size() > 600) {
                return null;
            }
        }
        found.count = depth.size();
        return found;
    }

    static void ring(Run run, Configuration c, List<Integer> ring) {
        int role = NONE;
        for (int one : run.parts.keySet()) {
            if (role == NONE && run.state(c, one).sort != 'E') {
                role = one;
            }
        }
        while (run.parts.containsKey(role) && !ring.contains(role)
                && run.state(c, role).sort != 'E') {
            ring.add(role);
            role = run.state(c, role).other;
        }
    }

    /** The pairs of roles that can meet: sender at SEND, receiver at HEAR from it. */
    static List<int[]> meetings(Map<Integer, Part> parts, Map<Integer, Integer> states) {
        List<int[]> pairs = new ArrayList<>();
        for (int role : parts.keySet()) {
            State state = parts.get(role).states().get(states.get(role));
            if (state.sort == 'S' && parts.containsKey(state.other)) {
                State other = parts.get(state.other).states().get(states.get(state.other));
                if (other.sort == 'H' && other.other == role) {
                    pairs.add(new int[] {role, state.other});
                }
            }
        }
        return pairs;
    }

    static long countRows(Map<Integer, Part> parts, Map<Integer, Integer> states, int length,
            Map<Object, Long> known) {
        if (length == 0) {
            return 1;
        }
        Object key = List.of(states, length);
        if (known.containsKey(key)) {
            return known.get(key);
        }
        long sum = 0;
        for (int[] pair : meetings(parts, states)) {
            State s = parts.get(pair[0]).states().get(states.get(pair[0]));
            State h = parts.get(pair[1]).states().get(states.get(pair[1]));
            for (int kind : s.next.keySet()) {
                if (h.next.containsKey(kind)) {
                    Map<Integer, Integer> then = new TreeMap<>(states);
                    then.put(pair[0], s.next.get(kind));
                    then.put(pair[1], h.next.get(kind));
                    sum += countRows(parts, then, length - 1, known);
                }
            }
        }
        known.put(key, sum);
        return sum;
    }

    /** The whole of these parts; null if it cannot be made. */
    static Whole weave(Map<Integer, Part> parts) {
        Map<Integer, Integer> first = new TreeMap<>();
        for (int role : parts.keySet()) {
            first.put(role, 0);
        }
        Map<Map<Integer, Integer>, Place> made = new LinkedHashMap<>();
        List<Map<Integer, Integer>> open = new ArrayList<>();
        made.put(first, new Place());
        open.add(first);
        for (int i = 0; i < open.size(); i++) {
            Map<Integer, Integer> states = open.get(i);
            Place place = made.get(states);
            List<int[]> pairs = meetings(parts, states);
            if (pairs.isEmpty()) {
                for (int role : parts.keySet()) {
                    if (parts.get(role).states().get(states.get(role)).sort != 'E') {
                        return null;
                    }
                }
                place.sort = 'E';
                continue;
            }
            place.sort = 'L';
            place.from = pairs.get(0)[0];
            place.to = pairs.get(0)[1];
            State s = parts.get(place.from).states().get(states.get(place.from));
            State h = parts.get(place.to).states().get(states.get(place.to));
            for (int kind : s.next.keySet()) {
                if (!h.next.containsKey(kind)) {
                    return null;
                }
                Map<Integer, Integer> then = new TreeMap<>(states);
                then.put(place.from, s.next.get(kind));
                then.put(place.to, h.next.get(kind));
                if (!made.containsKey(then)) {
                    made.put(then, new Place());
                    open.add(then);
                }
                place.next.put(kind, made.get(then));
            }
            if (made.size() > 40) {
                return null;
            }
        }
        return new Whole(made.get(first));
    }

    // ---- the hall

    private String tape = "";
    private int error = NONE;
    private Whole[] wholes = new Whole[4];
    private Part[] slots = new Part[8];
    private Run run = null;
    private final Object[][] images = new Object[2][];

    Model() {
        for (int i = 0; i < 4; i++) {
            wholes[i] = new Whole(new Parser("end").all());
        }
        for (int i = 0; i < 8; i++) {
            slots[i] = new Part(0, List.of(new State()));
        }
    }

    private static void range(int number, int from, int to) {
        if (number < from || number > to) {
            throw new IllegalArgumentException();
        }
    }

    private static void there(int number, int count) {
        if (number < 0 || number >= count) {
            throw new IndexOutOfBoundsException();
        }
    }

    private static void state(boolean right) {
        if (!right) {
            throw new IllegalStateException();
        }
    }

    private static int sum(Iterable<Integer> numbers) {
        BitSet set = new BitSet();
        for (int number : numbers) {
            set.set(number);
        }
        return set.isEmpty() ? 0 : (int) set.toLongArray()[0];
    }

    int append(int a, int b, int c, int d, int e) {
        StringBuilder longer = new StringBuilder(tape);
        for (int word : new int[] {a, b, c, d, e}) {
            for (byte one : java.nio.ByteBuffer.allocate(4).putInt(word).array()) {
                if (one != 0) {
                    longer.append((char) (one & 255));
                }
            }
        }
        state(longer.length() <= 240);
        tape = longer.toString();
        return tape.length();
    }

    int clearTape() {
        int length = tape.length();
        tape = "";
        return length;
    }

    int errorPosition() {
        return error;
    }

    int read(int whole) {
        range(whole, 0, 3);
        String text = tape;
        tape = "";
        try {
            wholes[whole] = new Whole(new Parser(text).all());
            error = NONE;
        } catch (TextError found) {
            error = found.position;
            throw new IllegalArgumentException();
        }
        return wholes[whole].places.size();
    }

    int example(int which) {
        range(which, 0, 4);
        tape = EXAMPLES[which];
        return tape.length();
    }

    int places(int whole) {
        range(whole, 0, 3);
        return wholes[whole].places.size();
    }

    int placeAt(int whole, int place, int what) {
        range(whole, 0, 3);
        range(what, 0, 3);
        there(place, wholes[whole].places.size());
        Place asked = wholes[whole].places.get(place);
        switch (what) {
            case 0:
                return "ELB".indexOf(asked.sort);
            case 1:
                return asked.from;
            case 2:
                return asked.to;
            default:
                return asked.sort == 'L' ? sum(asked.next.keySet()) : 0;
        }
    }

    int next(int whole, int place, int kind) {
        range(whole, 0, 3);
        range(kind, 0, 9);
        there(place, wholes[whole].places.size());
        Place next = wholes[whole].places.get(place).next.get(kind);
        return next == null ? NONE : wholes[whole].number(next);
    }

    int roles(int whole) {
        range(whole, 0, 3);
        return sum(wholes[whole].roles());
    }

    boolean areAlike(int whole, int other) {
        range(whole, 0, 3);
        range(other, 0, 3);
        Whole one = wholes[whole];
        Whole two = wholes[other];
        boolean[][] unlike = new boolean[one.places.size()][two.places.size()];
        boolean changed = true;
        while (changed) {
            changed = false;
            for (int i = 0; i < one.places.size(); i++) {
                for (int j = 0; j < two.places.size(); j++) {
                    Place p = one.places.get(i);
                    Place q = two.places.get(j);
                    boolean same = p.sort == q.sort && p.from == q.from && p.to == q.to
                            && p.next.keySet().equals(q.next.keySet());
                    for (int kind : p.next.keySet()) {
                        same = same && !unlike[one.number(p.next.get(kind))][two.number(q.next.get(kind))];
                    }
                    if (!same && !unlike[i][j]) {
                        unlike[i][j] = true;
                        changed = true;
                    }
                }
            }
        }
        return !unlike[0][0];
    }

    int cut(int whole) {
        range(whole, 0, 3);
        return wholes[whole].why() == null ? wholes[whole].roles().size() : NONE;
    }

    int why(int whole, int what) {
        range(whole, 0, 3);
        range(what, 0, 2);
        Uncut uncut = wholes[whole].why();
        if (uncut == null) {
            return NONE;
        }
        return what == 0 ? uncut.role : what == 1 ? uncut.first : uncut.second;
    }

    int part(int whole, int role, int slot) {
        range(whole, 0, 3);
        range(role, 0, 5);
        range(slot, 0, 7);
        try {
            slots[slot] = wholes[whole].part(role);
        } catch (Uncut uncut) {
            throw new IllegalStateException();
        }
        return slots[slot].states().size();
    }

    int mirror(int slot, int to) {
        range(slot, 0, 7);
        range(to, 0, 7);
        state(slots[slot].others().size() == 1);
        slots[to] = mirrorOf(slots[slot]);
        return slots[to].role();
    }

    int roleOf(int slot) {
        range(slot, 0, 7);
        return slots[slot].role();
    }

    int states(int slot) {
        range(slot, 0, 7);
        return slots[slot].states().size();
    }

    int stateAt(int slot, int state, int what) {
        range(slot, 0, 7);
        range(what, 0, 2);
        there(state, slots[slot].states().size());
        State asked = slots[slot].states().get(state);
        return what == 0 ? "ESH".indexOf(asked.sort) : what == 1 ? asked.other : sum(asked.next.keySet());
    }

    int step(int slot, int state, int kind) {
        range(slot, 0, 7);
        range(kind, 0, 9);
        there(state, slots[slot].states().size());
        return slots[slot].states().get(state).next.getOrDefault(kind, NONE);
    }

    private List<Integer> row(int slot, int other) {
        range(slot, 0, 7);
        range(other, 0, 7);
        if (slots[slot].role() != slots[other].role()) {
            return null;
        }
        return shown(slots[slot], slots[other]);
    }

    boolean isBelow(int slot, int other) {
        List<Integer> row = row(slot, other);
        return row == null && slots[slot].role() == slots[other].role();
    }

    int shows(int slot, int other) {
        List<Integer> row = row(slot, other);
        return row == null ? NONE : row.size();
    }

    int showsAt(int slot, int other, int place) {
        List<Integer> row = row(slot, other);
        there(place, row == null ? 0 : row.size());
        return row.get(place);
    }

    boolean fit(int slot, int other) {
        range(slot, 0, 7);
        range(other, 0, 7);
        Part one = slots[slot];
        Part two = slots[other];
        return one.others().equals(Set.of(two.role())) && two.others().equals(Set.of(one.role()))
                && shown(one, mirrorOf(two)) == null;
    }

    int begin(int whole, int bound) {
        range(whole, 0, 3);
        range(bound, 1, 5);
        state(wholes[whole].why() == null);
        run = new Run();
        run.parts.putAll(wholes[whole].parts());
        run.bound = bound;
        run.anew();
        return run.parts.size();
    }

    int put(int slot) {
        range(slot, 0, 7);
        state(run != null && run.sent == 0 && run.parts.containsKey(slots[slot].role()));
        run = run.copy();
        run.parts.put(slots[slot].role(), slots[slot]);
        run.anew();
        return slots[slot].role();
    }

    private void inRun(int role) {
        if (run == null || !run.parts.containsKey(role)) {
            throw new IndexOutOfBoundsException();
        }
    }

    int send(int role, int kind) {
        inRun(role);
        range(kind, 0, 9);
        State state = run.state(run.at, role);
        state(state.sort == 'S' && state.next.containsKey(kind));
        List<Integer> queue = run.at.queue(role, state.other);
        state(queue.size() < run.bound);
        queue.add(kind);
        run.at.states.put(role, state.next.get(kind));
        run.sent++;
        return queue.size();
    }

    int hear(int role) {
        inRun(role);
        State state = run.state(run.at, role);
        state(state.sort == 'H');
        List<Integer> queue = run.at.queue(state.other, role);
        if (queue.isEmpty()) {
            throw new NoSuchElementException();
        }
        int kind = queue.get(0);
        state(state.next.containsKey(kind));
        queue.remove(0);
        run.at.states.put(role, state.next.get(kind));
        return kind;
    }

    int stateOf(int role) {
        inRun(role);
        return run.at.states.get(role);
    }

    int queue(int from, int to) {
        range(from, 0, 5);
        range(to, 0, 5);
        return run == null || from == to ? 0 : run.at.queue(from, to).size();
    }

    int queueAt(int from, int to, int place) {
        there(place, queue(from, to));
        return run.at.queue(from, to).get(place);
    }

    int stands() {
        if (run == null) {
            return NONE;
        }
        if (run.isOver(run.at)) {
            return run.at.letterLeft() ? 2 : 1;
        }
        return run.steps(run.at, run.bound).isEmpty() ? 3 : 0;
    }

    int sent() {
        return run == null ? 0 : run.sent;
    }

    int all(int bound, int what) {
        range(bound, 1, 5);
        range(what, 0, 4);
        state(run != null);
        Found found = lookThrough(run, bound);
        if (found == null) {
            return NONE;
        }
        return new int[] {found.count, found.stuck, found.unknown, found.left, found.hindered}[what];
    }

    int ringAt(int bound, int place) {
        range(bound, 1, 5);
        state(run != null);
        Found found = lookThrough(run, bound);
        if (found == null || place < 0 || place >= found.ring.size()) {
            throw new NoSuchElementException();
        }
        return found.ring.get(place);
    }

    int least() {
        state(run != null);
        for (int bound = 1; bound <= 5; bound++) {
            Found found = lookThrough(run, bound);
            if (found == null) {
                return NONE;
            }
            if (found.hindered == 0) {
                return bound;
            }
        }
        return NONE;
    }

    long rows(int whole, int length) {
        range(whole, 0, 3);
        range(length, 0, 12);
        state(wholes[whole].why() == null);
        Map<Integer, Part> parts = wholes[whole].parts();
        Map<Integer, Integer> states = new TreeMap<>();
        for (int role : parts.keySet()) {
            states.put(role, 0);
        }
        return countRows(parts, states, length, new HashMap<>());
    }

    int back(int whole) {
        range(whole, 0, 3);
        state(run != null);
        Whole made = weave(run.parts);
        if (made == null) {
            return NONE;
        }
        wholes[whole] = made;
        return made.places.size();
    }

    boolean letter(int from, int to, int kind) {
        range(from, 0, 5);
        range(to, 0, 5);
        range(kind, 0, 9);
        range(from == to ? 1 : 0, 0, 0);
        state(run != null);
        if (run.fault != NONE) {
            return false;
        }
        State s = run.watched.containsKey(from)
                ? run.parts.get(from).states().get(run.watched.get(from)) : new State();
        State h = run.watched.containsKey(to)
                ? run.parts.get(to).states().get(run.watched.get(to)) : new State();
        if (s.sort != 'S' || s.other != to || !s.next.containsKey(kind)) {
            run.fault = from;
        } else if (h.sort != 'H' || h.other != from || !h.next.containsKey(kind)) {
            run.fault = to;
        } else {
            run.watched.put(from, s.next.get(kind));
            run.watched.put(to, h.next.get(kind));
            run.right++;
            return true;
        }
        return false;
    }

    int blame(int what) {
        range(what, 0, 1);
        if (run == null || run.fault == NONE) {
            return NONE;
        }
        return what == 0 ? run.right : run.fault;
    }

    private int allPlaces() {
        int sum = 0;
        for (Whole whole : wholes) {
            sum += whole.places.size();
        }
        return sum;
    }

    int image(int image) {
        range(image, 0, 1);
        images[image] = new Object[] {wholes.clone(), slots.clone(), run == null ? null : run.copy()};
        return allPlaces();
    }

    int restore(int image) {
        range(image, 0, 1);
        if (images[image] == null) {
            throw new NoSuchElementException();
        }
        wholes = ((Whole[]) images[image][0]).clone();
        slots = ((Part[]) images[image][1]).clone();
        run = images[image][2] == null ? null : ((Run) images[image][2]).copy();
        return allPlaces();
    }

    int checksum() {
        List<Integer> numbers = new ArrayList<>();
        for (Whole whole : wholes) {
            numbers.add(whole.places.size());
        }
        for (Part slot : slots) {
            numbers.add(slot.states().size());
        }
        if (run != null) {
            numbers.addAll(run.at.states.values());
        }
        int sum = 17;
        for (int number : numbers) {
            sum = 31 * sum + number;
        }
        return sum;
    }

    double meanKinds() {
        List<Integer> sizes = new ArrayList<>();
        for (Whole whole : wholes) {
            for (Place place : whole.places) {
                if (place.sort == 'L') {
                    sizes.add(place.next.size());
                }
            }
        }
        double sum = 0;
        for (int size : sizes) {
            sum += size;
        }
        return sizes.isEmpty() ? 0.0 : sum / sizes.size();
    }

    float cutShare() {
        return Arrays.stream(wholes).filter(whole -> whole.why() == null).count() / 4.0f;
    }

    int errors() {
        return 0;
    }
}
