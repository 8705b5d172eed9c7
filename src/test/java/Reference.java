import java.util.ArrayDeque;
import java.util.ArrayList;
import java.util.Collections;
import java.util.HashMap;
import java.util.LinkedHashMap;
import java.util.List;
import java.util.Map;
import java.util.TreeMap;

/** A slow model that follows the document's words and shares nothing with the class: its answers are texts. */
final class Reference {
    private static final String ILLEGAL_ARGUMENT = "throws.IllegalArgumentException";
    private static final String ILLEGAL_STATE = "throws.IllegalStateException";
    private static final String NO_SUCH_ELEMENT = "throws.NoSuchElementException";

    private final List<List<int[]>> threads = new ArrayList<>();
    private Map<String, Scene> scenes = new LinkedHashMap<>();
    private Map<String, Integer> distances = new HashMap<>();
    private Map<String, TreeMap<Integer, String>> edges = new HashMap<>();
    private TreeMap<String, String> outcomes = new TreeMap<>();
    private List<List<Integer>> ways = new ArrayList<>();

    Reference() {
        for (int t = 0; t < 4; t++) {
            threads.add(new ArrayList<>());
        }
    }

    private int total() {
        int total = 0;
        for (List<int[]> thread : threads) {
            total += thread.size();
        }
        return total;
    }

    private static boolean among(int least, int x, int most) {
        return x >= least && x <= most;
    }

    String add(int thread, int number, int a, int b) {
        boolean known;
        switch (number) {
            case 0: case 1: case 2: case 4: case 5:
                known = among(0, a, 3) && among(0, b, 3);
                break;
            case 3:
                known = a == 0 && b == 0;
                break;
            case 6:
                known = among(1, a, 3) && among(0, b, 3);
                break;
            default:
                known = false;
        }
        if (!known || !among(0, thread, 3) || threads.get(thread).size() == 6 || total() == 12) {
            return "false";
        }
        threads.get(thread).add(new int[] {number, a, b});
        return "true";
    }

    String clear(int thread) {
        if (!among(0, thread, 3)) {
            return "-1";
        }
        int had = threads.get(thread).size();
        threads.get(thread).clear();
        return Integer.toString(had);
    }

    /** The state behind a move, or null if it can't be made. */
    private Scene after(Scene scene, int move, int model) {
        Scene next = scene.copy();
        if (move >= 4) {
            int t = (move - 4) / 4;
            List<int[]> buffer = next.buffers.get(t);
            for (int i = 0; i < buffer.size(); i++) {
                if (buffer.get(i)[0] == (move - 4) % 4) {
                    if (model == 1 && i > 0) {
                        return null;
                    }
                    int[] store = buffer.remove(i);
                    next.values[16 + store[0]] = store[1];
                    return next;
                }
            }
            return null;
        }
        List<int[]> thread = threads.get(move);
        if (scene.places[move] == thread.size()) {
            return null;
        }
        int[] instruction = thread.get(next.places[move]++);
        return perform(next, move, instruction, model) ? next : null;
    }

    private boolean perform(Scene next, int t, int[] instruction, int model) {
        List<int[]> buffer = next.buffers.get(t);
        int word = 16 + instruction[1];
        int register = 4 * t + instruction[2];
        int old = next.values[Math.min(word, 19)];
        switch (instruction[0]) {
            case 0: case 1:
                int value = instruction[0] == 0 ? instruction[2] : next.values[register];
                if (model == 0) {
                    next.values[word] = value;
                    return true;
                }
                if (buffer.size() == 2) {
                    return false;
                }
                buffer.add(new int[] {instruction[1], value});
                return true;
            case 2:
                next.values[register] = old;
                for (int[] store : buffer) {
                    if (store[0] == instruction[1]) {
                        next.values[register] = store[1];
                    }
                }
                return true;
            case 3:
                return buffer.isEmpty();
            case 4:
                next.values[word] = next.values[register];
                next.values[register] = old;
                return buffer.isEmpty();
            case 5:
                next.values[register] = old;
                next.values[word] = old == 3 ? 0 : old + 1;
                return buffer.isEmpty();
            default:
                for (int n = 0; n < instruction[1] && next.values[register] == 0; n++) {
                    if (next.places[t] < threads.get(t).size()) {
                        next.places[t]++;
                    }
                }
                return true;
        }
    }

    String explore(int model) {
        if (!among(0, model, 2)) {
            return ILLEGAL_ARGUMENT;
        }
        Map<String, Scene> newScenes = new LinkedHashMap<>();
        Map<String, Integer> newDistances = new HashMap<>();
        Map<String, TreeMap<Integer, String>> newEdges = new HashMap<>();
        ArrayDeque<String> open = new ArrayDeque<>();
        Scene beginning = new Scene();
        newScenes.put(beginning.text(), beginning);
        newDistances.put(beginning.text(), 0);
        open.add(beginning.text());
        while (!open.isEmpty()) {
            String text = open.remove();
            TreeMap<Integer, String> moves = new TreeMap<>();
            newEdges.put(text, moves);
            for (int move = 19; move >= 0; move--) {
                Scene next = after(newScenes.get(text), move, model);
                if (next == null) {
                    continue;
                }
                String nextText = next.text();
                moves.put(move, nextText);
                if (newScenes.putIfAbsent(nextText, next) == null) {
                    newDistances.put(nextText, newDistances.get(text) + 1);
                    open.add(nextText);
                }
            }
            if (newScenes.size() > 20000) {
                return ILLEGAL_STATE;
            }
        }
        scenes = newScenes;
        distances = newDistances;
        edges = newEdges;
        findOutcomes();
        return Integer.toString(outcomes.size());
    }

    private void findOutcomes() {
        outcomes = new TreeMap<>();
        ways = new ArrayList<>();
        for (Map.Entry<String, Scene> entry : scenes.entrySet()) {
            Scene scene = entry.getValue();
            boolean ended = true;
            for (int t = 0; t < 4; t++) {
                ended &= scene.places[t] == threads.get(t).size() && scene.buffers.get(t).isEmpty();
            }
            if (ended) {
                outcomes.put(entry.getKey(), entry.getKey());
            }
        }
        Map<String, List<String>> sources = sources();
        for (String outcome : outcomes.keySet()) {
            ways.add(wayTo(outcome, sources));
        }
    }

    private Map<String, List<String>> sources() {
        Map<String, List<String>> sources = new HashMap<>();
        for (Map.Entry<String, TreeMap<Integer, String>> entry : edges.entrySet()) {
            for (String target : entry.getValue().values()) {
                if (distances.get(target) == distances.get(entry.getKey()) + 1) {
                    sources.computeIfAbsent(target, key -> new ArrayList<>()).add(entry.getKey());
                }
            }
        }
        return sources;
    }

    /** Back from the outcome all states on shortest rows, then forward by the least move among these. */
    private List<Integer> wayTo(String outcome, Map<String, List<String>> sources) {
        Map<String, Boolean> onRow = new HashMap<>();
        ArrayDeque<String> open = new ArrayDeque<>();
        onRow.put(outcome, true);
        open.add(outcome);
        while (!open.isEmpty()) {
            for (String source : sources.getOrDefault(open.remove(), Collections.emptyList())) {
                if (onRow.put(source, true) == null) {
                    open.add(source);
                }
            }
        }
        List<Integer> way = new ArrayList<>();
        String at = new Scene().text();
        while (!at.equals(outcome)) {
            for (Map.Entry<Integer, String> edge : edges.get(at).entrySet()) {
                boolean nearer = distances.get(edge.getValue()) == distances.get(at) + 1;
                if (nearer && onRow.containsKey(edge.getValue())) {
                    way.add(edge.getKey());
                    at = edge.getValue();
                    break;
                }
            }
        }
        return way;
    }

    String count(int what) {
        int answer = -1;
        if (what == 0) {
            answer = total();
        } else if (what == 1) {
            answer = scenes.size();
        } else if (what == 2) {
            answer = outcomes.size();
        } else if (what == 3) {
            answer = 0;
            for (TreeMap<Integer, String> moves : edges.values()) {
                answer += moves.size() > 1 ? 1 : 0;
            }
        } else if (what == 4) {
            answer = distances.isEmpty() ? 0 : Collections.max(distances.values());
        }
        return Integer.toString(answer);
    }

    String outcome(int k, int what) {
        if (!among(0, k, outcomes.size() - 1) || !among(0, what, 20)) {
            return NO_SUCH_ELEMENT;
        }
        if (what == 20) {
            return Integer.toString(ways.get(k).size());
        }
        return new ArrayList<>(outcomes.keySet()).get(k).substring(what, what + 1);
    }

    String move(int k, int i) {
        if (!among(0, k, outcomes.size() - 1) || !among(0, i, ways.get(k).size() - 1)) {
            return NO_SUCH_ELEMENT;
        }
        return ways.get(k).get(i).toString();
    }

    String may(int what, int v) {
        if (!among(0, what, 19)) {
            return "-1";
        }
        int found = 0;
        for (String outcome : outcomes.keySet()) {
            found += outcome.charAt(what) - '0' == v ? 1 : 0;
        }
        return Integer.toString(found);
    }

    /** A state with everything in it by itself; its text is what it is known by. */
    private static final class Scene {
        final int[] places = new int[4];
        final List<List<int[]>> buffers = new ArrayList<>();
        final int[] values = new int[20];

        Scene() {
            for (int t = 0; t < 4; t++) {
                buffers.add(new ArrayList<>());
            }
        }

        Scene copy() {
            Scene other = new Scene();
            System.arraycopy(places, 0, other.places, 0, 4);
            System.arraycopy(values, 0, other.values, 0, 20);
            for (int t = 0; t < 4; t++) {
                other.buffers.get(t).addAll(buffers.get(t));
            }
            return other;
        }

        String text() {
            StringBuilder text = new StringBuilder();
            for (int value : values) {
                text.append(value);
            }
            for (int t = 0; t < 4; t++) {
                text.append('/').append(places[t]).append(':');
                for (int[] store : buffers.get(t)) {
                    text.append(store[0]).append('=').append(store[1]).append(';');
                }
            }
            return text.toString();
        }
    }
}
