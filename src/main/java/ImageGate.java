import java.util.Arrays;

/**
 * The gate through which programs come into memory: a file is checked from its first byte on and only then laid
 * into pages, so that a refused file leaves the image before it as it was.
 */
public final class ImageGate {
    /** Nothing there. */
    public static final int NONE = -1;

    private static final int FILE_BYTES = 65536;
    private static final int ARGUMENTS = 32;
    private static final int LETTERS = 127;
    private static final int START_BYTES = 52;
    private static final int HEADERS = 8;
    private static final int HEADER_BYTES = 32;
    private static final int PAGE_BYTES = 4096;
    private static final int PAGES = 32;
    private static final int PAGES_BEHIND_PARTS = 2;
    private static final long HIGHEST_END = 1073733632L;
    private static final byte[] FIRST_BYTES = {127, 69, 76, 70, 1, 1, 1};

    private static final int READ = 1;
    private static final int WRITTEN = 2;
    private static final int RUN = 4;
    private static final int USER = 8;

    private static final int NOT_REFUSED = 0;
    private static final int NO_IMAGE = 1;
    private static final int WRONG_KIND = 2;
    private static final int HEADER_OUTSIDE = 3;
    private static final int WRONG_PART = 4;
    private static final int TOO_FEW_PAGES = 5;
    private static final int STACK_TOO_SMALL = 6;

    private final FileBytes file;
    private final Arguments arguments;
    private final Plan plan;
    private final Image image;
    private int refusal;

    public ImageGate() {
        file = new FileBytes();
        arguments = new Arguments();
        plan = new Plan();
        image = new Image();
        refusal = NOT_REFUSED;
    }

    public boolean feed(int a, int b, int c, int d, int e) {
        if (!file.hasRoom(20)) {
            return false;
        }
        file.append(a);
        file.append(b);
        file.append(c);
        file.append(d);
        file.append(e);
        return true;
    }

    public boolean end(int n) {
        return file.cut(n);
    }

    public boolean set(int k, int b) {
        if (b < 0 || b > 255) {
            return false;
        }
        return file.write(k, 1, b);
    }

    public boolean put(int k, int n, int v) {
        if (n != 1 && n != 2 && n != 4) {
            return false;
        }
        return file.write(k, n, v);
    }

    public int length() {
        return file.count;
    }

    public boolean argument() {
        return arguments.open();
    }

    public boolean letters(long w) {
        return arguments.extend(w);
    }

    public void forget() {
        arguments.count = 0;
    }

    public int load(int pages) {
        refusal = judge(Math.max(0, Math.min(pages, PAGES)));
        if (refusal != NOT_REFUSED) {
            return NONE;
        }
        image.lay(plan, file, arguments);
        return image.count;
    }

    public int why() {
        return refusal;
    }

    public int about(int what) {
        // Without an image all of these are still 0, as the document wants it.
        switch (what) {
            case 0:
                return image.entry;
            case 1:
                return image.stackPointer;
            case 2:
                return image.size;
            case 3:
                return image.argumentCount;
            case 4:
                return image.count;
            default:
                return NONE;
        }
    }

    public int at(int address) {
        Page page = image.find(address);
        return page == null ? NONE : page.read(address - page.start);
    }

    public int flags(int address) {
        Page page = image.find(address);
        return page == null ? NONE : page.rights;
    }

    /** Touches the plan alone, never the image: whatever is wrong is found before anything is laid. */
    private int judge(int room) {
        if (!plan.beginsAsImage(file)) {
            return NO_IMAGE;
        }
        if (!plan.isOfOurKind(file)) {
            return WRONG_KIND;
        }
        if (!plan.hasAllHeaders(file)) {
            return HEADER_OUTSIDE;
        }
        if (!plan.readParts(file)) {
            return WRONG_PART;
        }
        if (plan.pages > room) {
            return TOO_FEW_PAGES;
        }
        return arguments.stackPointer() < 0 ? STACK_TOO_SMALL : NOT_REFUSED;
    }

    private static final class FileBytes {
        private final byte[] row = new byte[FILE_BYTES];
        private int count;

        boolean hasRoom(int n) {
            return n <= row.length - count;
        }

        boolean holds(long from, long n) {
            return from >= 0 && n >= 0 && from <= count && n <= count - from;
        }

        void append(int word) {
            for (int shift = 24; shift >= 0; shift -= 8) {
                if (count < row.length) {
                    row[count] = (byte) (word >> shift);
                    count++;
                }
            }
        }

        boolean cut(int n) {
            if (n < 0 || n > count) {
                return false;
            }
            count = n;
            return true;
        }

        boolean write(int from, int n, int value) {
            if (!holds(from, n)) {
                return false;
            }
            for (int i = 0; i < n; i++) {
                row[from + i] = (byte) (value >> (8 * i));
            }
            return true;
        }

        int number(int from, int n) {
            if (!holds(from, n)) {
                return 0;
            }
            int value = 0;
            for (int i = n - 1; i >= 0; i--) {
                value = (value << 8) | (row[from + i] & 255);
            }
            return value;
        }

        long unsigned(int from) {
            return number(from, 4) & 0xFFFFFFFFL;
        }

        void copyTo(Page page, int from, int n) {
            if (n <= page.bytes.length && holds(from, n)) {
                System.arraycopy(row, from, page.bytes, 0, n);
            }
        }
    }

    private static final class Arguments {
        private final byte[] row = new byte[ARGUMENTS * LETTERS];
        private final int[] sizes = new int[ARGUMENTS];
        private int count;

        boolean open() {
            if (count >= sizes.length) {
                return false;
            }
            sizes[count] = 0;
            count++;
            return true;
        }

        boolean extend(long word) {
            int latest = count - 1;
            if (latest < 0 || latest >= sizes.length || sizes[latest] + lettersIn(word) > LETTERS) {
                return false;
            }
            for (int shift = 56; shift >= 0; shift -= 8) {
                byte letter = (byte) (word >> shift);
                if (letter != 0) {
                    row[latest * LETTERS + sizes[latest]] = letter;
                    sizes[latest]++;
                }
            }
            return true;
        }

        private static int lettersIn(long word) {
            int found = 0;
            for (int shift = 56; shift >= 0; shift -= 8) {
                if ((byte) (word >> shift) != 0) {
                    found++;
                }
            }
            return found;
        }

        /**
         * Where argument i lies in the stack's page if all from top on is taken. The page begins at a multiple of
         * 4,096, so what is a multiple of 4 or 16 in the page is one in memory too. Below 0 there is no room.
         */
        int placeBelow(int top, int i) {
            int size = i >= 0 && i < sizes.length ? sizes[i] : 0;
            return (top - size - 1) & -4;
        }

        /** Where in the stack's page the stack pointer points; below 0 if the page has no room. */
        int stackPointer() {
            int top = PAGE_BYTES;
            for (int i = 0; i < count; i++) {
                top = placeBelow(top, i);
            }
            return (top - 4 * (count + 1)) & -16;
        }

        void copyTo(Page page, int place, int i) {
            if (i < 0 || i >= sizes.length || place < 0 || place > page.bytes.length - sizes[i]) {
                return;
            }
            System.arraycopy(row, i * LETTERS, page.bytes, place, sizes[i]);
        }
    }

    /** A part as a header tells it, once it has been found to be as it must be. */
    private static final class Part {
        private int from;
        private int bytes;
        private int address;
        private int pages;
        private int rights;
    }

    /** What a load would lay; it is made anew by each load, in the same rows. */
    private static final class Plan {
        private final Part[] parts = new Part[HEADERS];
        private int count;
        private int entry;
        private int top;
        private int pages;

        Plan() {
            for (int i = 0; i < parts.length; i++) {
                parts[i] = new Part();
            }
        }

        boolean beginsAsImage(FileBytes file) {
            if (!file.holds(0, START_BYTES)) {
                return false;
            }
            for (int i = 0; i < FIRST_BYTES.length; i++) {
                if (file.number(i, 1) != FIRST_BYTES[i]) {
                    return false;
                }
            }
            return true;
        }

        boolean isOfOurKind(FileBytes file) {
            return file.number(16, 2) == 2
                && file.number(18, 2) == 243
                && file.number(20, 4) == 1
                && file.number(42, 2) == HEADER_BYTES
                && headerCount(file) <= HEADERS;
        }

        /** Where headers begin says nothing if there are none: then no header is outside the file. */
        boolean hasAllHeaders(FileBytes file) {
            int headers = headerCount(file);
            return headers == 0 || file.holds(file.unsigned(28), headers * HEADER_BYTES);
        }

        boolean readParts(FileBytes file) {
            count = 0;
            entry = file.number(24, 4);
            top = 0;
            pages = PAGES_BEHIND_PARTS;
            int begin = file.number(28, 4);
            int headers = headerCount(file);
            for (int i = 0; i < headers; i++) {
                if (!readHeader(file, begin + i * HEADER_BYTES)) {
                    return false;
                }
            }
            return true;
        }

        private static int headerCount(FileBytes file) {
            return file.number(44, 2);
        }

        private boolean readHeader(FileBytes file, int place) {
            long from = file.unsigned(place + 4);
            long address = file.unsigned(place + 8);
            long bytes = file.unsigned(place + 16);
            long span = file.unsigned(place + 20);
            if (file.number(place, 4) != 1 || span == 0) {
                return true;
            }
            if (address % PAGE_BYTES != 0 || address < top || address + span > HIGHEST_END) {
                return false;
            }
            if (bytes > span || !file.holds(from, bytes) || count >= parts.length) {
                return false;
            }
            // All of these fit an int now: the file and the highest end bound them.
            Part part = parts[count];
            part.from = (int) from;
            part.bytes = (int) bytes;
            part.address = (int) address;
            part.pages = (int) ((span + PAGE_BYTES - 1) / PAGE_BYTES);
            part.rights = rightsOf(file.number(place + 24, 4));
            count++;
            top = part.address + part.pages * PAGE_BYTES;
            pages += part.pages;
            return true;
        }

        private static int rightsOf(int wanted) {
            return USER
                | ((wanted & 4) != 0 ? READ : 0)
                | ((wanted & 2) != 0 ? WRITTEN : 0)
                | ((wanted & 1) != 0 ? RUN : 0);
        }
    }

    private static final class Page {
        private final byte[] bytes = new byte[PAGE_BYTES];
        private int start;
        private int rights;

        void clear(int newStart, int newRights) {
            start = newStart;
            rights = newRights;
            Arrays.fill(bytes, (byte) 0);
        }

        int read(int place) {
            return place >= 0 && place < bytes.length ? bytes[place] & 255 : NONE;
        }

        void writeNumber(int place, int value) {
            if (place < 0 || place > bytes.length - 4) {
                return;
            }
            for (int i = 0; i < 4; i++) {
                bytes[place + i] = (byte) (value >> (8 * i));
            }
        }
    }

    /** The image; all of it is 0 as long as there is none. Its pages are made once and taken again by each load. */
    private static final class Image {
        private final Page[] pages = new Page[PAGES];
        private int count;
        private int entry;
        private int stackPointer;
        private int size;
        private int argumentCount;

        Image() {
            for (int i = 0; i < pages.length; i++) {
                pages[i] = new Page();
            }
        }

        Page find(int address) {
            for (int i = 0; i < count && i < pages.length; i++) {
                if (pages[i].start == (address & -PAGE_BYTES)) {
                    return pages[i];
                }
            }
            return null;
        }

        void lay(Plan plan, FileBytes file, Arguments given) {
            count = 0;
            entry = plan.entry;
            size = plan.top + PAGES_BEHIND_PARTS * PAGE_BYTES;
            argumentCount = given.count;
            for (int i = 0; i < plan.count && i < plan.parts.length; i++) {
                layPart(plan.parts[i], file);
            }
            takePage(plan.top, READ | WRITTEN);
            layStack(takePage(plan.top + PAGE_BYTES, USER | READ | WRITTEN), given);
        }

        private void layPart(Part part, FileBytes file) {
            for (int i = 0; i < part.pages && i < PAGES; i++) {
                int done = i * PAGE_BYTES;
                Page page = takePage(part.address + done, part.rights);
                if (page != null && done < part.bytes) {
                    file.copyTo(page, part.from + done, Math.min(part.bytes - done, PAGE_BYTES));
                }
            }
        }

        /** The 0 behind each argument and behind the addresses needs no writing: a page that is taken is all 0. */
        private void layStack(Page stack, Arguments given) {
            if (stack == null) {
                return;
            }
            int pointer = given.stackPointer();
            int top = PAGE_BYTES;
            for (int i = 0; i < given.count; i++) {
                top = given.placeBelow(top, i);
                given.copyTo(stack, top, i);
                stack.writeNumber(pointer + 4 * i, stack.start + top);
            }
            stackPointer = stack.start + pointer;
        }

        private Page takePage(int start, int rights) {
            if (count >= pages.length) {
                return null;
            }
            Page page = pages[count];
            page.clear(start, rights);
            count++;
            return page;
        }
    }
}
