import java.util.ArrayList;
import java.util.HashMap;
import java.util.List;
import java.util.Map;

/** The document read a second time, as plainly as can be, with lists and maps: what ImageGate is compared with. */
final class SecondReading {
  private static final long PAGE = 4096;
  private List<Integer> file = new ArrayList<>();
  private List<List<Integer>> arguments = new ArrayList<>();
  private Map<Long, Integer> memory = new HashMap<>();
  private Map<Long, Integer> flags = new HashMap<>();
  private long[] about = new long[5];
  private int why = 0;

  boolean feed(int... words) {
    if (file.size() + 20 > 65536) {
      return false;
    }
    for (int word : words) {
      file.add(word >>> 24);
      file.add(word >>> 16 & 255);
      file.add(word >>> 8 & 255);
      file.add(word & 255);
    }
    return true;
  }

  boolean end(int n) {
    if (n < 0 || file.size() < n) {
      return false;
    }
    file = new ArrayList<>(file.subList(0, n));
    return true;
  }

  boolean set(int k, int b) {
    if (k < 0 || k >= file.size() || b < 0 || b > 255) {
      return false;
    }
    file.set(k, b);
    return true;
  }

  boolean put(int k, int n, int v) {
    if (n != 1 && n != 2 && n != 4 || k < 0 || (long) k + n > file.size()) {
      return false;
    }
    for (int i = 0; i < n; i++) {
      file.set(k + i, v >>> 8 * i & 255);
    }
    return true;
  }

  int wordAt(int k) {
    return (int) number(k, 4);
  }

  int length() {
    return file.size();
  }

  boolean argument() {
    return arguments.size() < 32 && arguments.add(new ArrayList<>());
  }

  boolean letters(long w) {
    if (arguments.isEmpty()) {
      return false;
    }
    List<Integer> longer = new ArrayList<>(arguments.get(arguments.size() - 1));
    for (int i = 7; i >= 0; i--) {
      int letter = (int) (w >>> 8 * i & 255);
      if (letter != 0) {
        longer.add(letter);
      }
    }
    if (longer.size() > 127) {
      return false;
    }
    arguments.set(arguments.size() - 1, longer);
    return true;
  }

  void forget() {
    arguments.clear();
  }

  int why() {
    return why;
  }

  int about(int what) {
    return what < 0 || what > 4 ? -1 : (int) about[what];
  }

  int at(int address) {
    long a = address & 0xFFFFFFFFL;
    return flags.containsKey(a / PAGE) ? memory.getOrDefault(a, 0) : -1;
  }

  int flags(int address) {
    return flags.getOrDefault((address & 0xFFFFFFFFL) / PAGE, -1);
  }

  int load(int pages) {
    Map<Long, Integer> newMemory = new HashMap<>();
    Map<Long, Integer> newFlags = new HashMap<>();
    long[] newAbout = new long[5];
    why = tryLoad(Math.min(32, Math.max(0, pages)), newMemory, newFlags, newAbout);
    if (why != 0) {
      return -1;
    }
    memory = newMemory;
    flags = newFlags;
    about = newAbout;
    return (int) about[4];
  }

  private int tryLoad(int room, Map<Long, Integer> bytes, Map<Long, Integer> rights, long[] facts) {
    if (file.size() < 52 || !file.subList(0, 7).equals(List.of(127, 69, 76, 70, 1, 1, 1))) {
      return 1;
    }
    long headers = number(44, 2);
    if (number(16, 2) != 2 || number(18, 2) != 243 || number(20, 4) != 1 || number(42, 2) != 32 || headers > 8) {
      return 2;
    }
    for (int i = 0; i < headers; i++) {
      if (number(28, 4) + 32 * i + 32 > file.size()) {
        return 3;
      }
    }
    long end = 0;
    long wanted = 2;
    for (int i = 0; i < headers; i++) {
      int k = (int) number(28, 4) + 32 * i;
      long from = number(k + 4, 4);
      long address = number(k + 8, 4);
      long size = number(k + 16, 4);
      long span = number(k + 20, 4);
      if (number(k, 4) != 1 || span == 0) {
        continue;
      }
      if (address % PAGE != 0 || address < end || address + span > 1073733632L || size > span
          || from + size > file.size()) {
        return 4;
      }
      end = address + span;
      while (end % PAGE != 0) {
        end++;
      }
      wanted += (end - address) / PAGE;
      if (wanted <= 32) {
        lay(bytes, rights, from, address, size, end, number(k + 24, 4));
      }
    }
    if (room < wanted) {
      return 5;
    }
    rights.put(end / PAGE, 3);
    rights.put(end / PAGE + 1, 11);
    facts[0] = number(24, 4);
    facts[2] = end + 2 * PAGE;
    facts[3] = arguments.size();
    facts[4] = wanted;
    return layStack(bytes, end + PAGE, facts);
  }

  private void lay(Map<Long, Integer> bytes, Map<Long, Integer> rights, long from, long address, long size,
      long end, long wanted) {
    for (long page = address / PAGE; page < end / PAGE; page++) {
      rights.put(page, 8 + (int) (wanted / 4 % 2 + 2 * (wanted / 2 % 2) + 4 * (wanted % 2)));
    }
    for (int i = 0; i < size; i++) {
      bytes.put(address + i, file.get((int) from + i));
    }
  }

  private int layStack(Map<Long, Integer> bytes, long bottom, long[] facts) {
    long top = bottom + PAGE;
    List<Long> places = new ArrayList<>();
    for (List<Integer> text : arguments) {
      long place = bottom + PAGE;
      while (place + text.size() + 1 > top) {
        place -= 4;
      }
      for (int i = 0; i < text.size(); i++) {
        bytes.put(place + i, text.get(i));
      }
      places.add(place);
      top = place;
    }
    places.add(0L);
    long sp = bottom + PAGE;
    while (sp + 4 * places.size() > top) {
      sp -= 16;
    }
    for (int i = 0; i < places.size(); i++) {
      for (int j = 0; j < 4; j++) {
        bytes.put(sp + 4 * i + j, (int) (places.get(i) >> 8 * j & 255));
      }
    }
    facts[1] = sp;
    return sp < bottom ? 6 : 0;
  }

  private long number(int k, int n) {
    long v = 0;
    for (int i = n - 1; i >= 0; i--) {
      v = 256 * v + file.get(k + i);
    }
    return v;
  }
}
