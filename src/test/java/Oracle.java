import java.util.TreeSet;

/**
 * A second GameCore for the tests, written from the names of the instructions instead of their
 * bit patterns; it counts M-cycles as accesses to memory and idle cycles, without a table.
 */
final class Oracle {
    private static final String[] NAMES = (
        "NOP|LD BC,d16|LD (BC),A|INC BC|INC B|DEC B|LD B,d8|RLCA|"
        + "LD (a16),SP|ADD HL,BC|LD A,(BC)|DEC BC|INC C|DEC C|LD C,d8|RRCA|"
        + "-|LD DE,d16|LD (DE),A|INC DE|INC D|DEC D|LD D,d8|RLA|"
        + "JR e8|ADD HL,DE|LD A,(DE)|DEC DE|INC E|DEC E|LD E,d8|RRA|"
        + "JR NZ,e8|LD HL,d16|LD (HL+),A|INC HL|INC H|DEC H|LD H,d8|DAA|"
        + "JR Z,e8|ADD HL,HL|LD A,(HL+)|DEC HL|INC L|DEC L|LD L,d8|CPL|"
        + "JR NC,e8|LD SP,d16|LD (HL-),A|INC SP|INC (HL)|DEC (HL)|LD (HL),d8|SCF|"
        + "JR CY,e8|ADD HL,SP|LD A,(HL-)|DEC SP|INC A|DEC A|LD A,d8|CCF|"
        + "LD B,B|LD B,C|LD B,D|LD B,E|LD B,H|LD B,L|LD B,(HL)|LD B,A|"
        + "LD C,B|LD C,C|LD C,D|LD C,E|LD C,H|LD C,L|LD C,(HL)|LD C,A|"
        + "LD D,B|LD D,C|LD D,D|LD D,E|LD D,H|LD D,L|LD D,(HL)|LD D,A|"
        + "LD E,B|LD E,C|LD E,D|LD E,E|LD E,H|LD E,L|LD E,(HL)|LD E,A|"
        + "LD H,B|LD H,C|LD H,D|LD H,E|LD H,H|LD H,L|LD H,(HL)|LD H,A|"
        + "LD L,B|LD L,C|LD L,D|LD L,E|LD L,H|LD L,L|LD L,(HL)|LD L,A|"
        + "LD (HL),B|LD (HL),C|LD (HL),D|LD (HL),E|LD (HL),H|LD (HL),L|HALT|LD (HL),A|"
        + "LD A,B|LD A,C|LD A,D|LD A,E|LD A,H|LD A,L|LD A,(HL)|LD A,A|"
        + "ADD A,B|ADD A,C|ADD A,D|ADD A,E|ADD A,H|ADD A,L|ADD A,(HL)|ADD A,A|"
        + "ADC A,B|ADC A,C|ADC A,D|ADC A,E|ADC A,H|ADC A,L|ADC A,(HL)|ADC A,A|"
        + "SUB A,B|SUB A,C|SUB A,D|SUB A,E|SUB A,H|SUB A,L|SUB A,(HL)|SUB A,A|"
        + "SBC A,B|SBC A,C|SBC A,D|SBC A,E|SBC A,H|SBC A,L|SBC A,(HL)|SBC A,A|"
        + "AND A,B|AND A,C|AND A,D|AND A,E|AND A,H|AND A,L|AND A,(HL)|AND A,A|"
        + "XOR A,B|XOR A,C|XOR A,D|XOR A,E|XOR A,H|XOR A,L|XOR A,(HL)|XOR A,A|"
        + "OR A,B|OR A,C|OR A,D|OR A,E|OR A,H|OR A,L|OR A,(HL)|OR A,A|"
        + "CP A,B|CP A,C|CP A,D|CP A,E|CP A,H|CP A,L|CP A,(HL)|CP A,A|"
        + "RET NZ|POP BC|JP NZ,a16|JP a16|CALL NZ,a16|PUSH BC|ADD A,d8|RST 00|"
        + "RET Z|RET|JP Z,a16|CB|CALL Z,a16|CALL a16|ADC A,d8|RST 08|"
        + "RET NC|POP DE|JP NC,a16|-|CALL NC,a16|PUSH DE|SUB A,d8|RST 10|"
        + "RET CY|RETI|JP CY,a16|-|CALL CY,a16|-|SBC A,d8|RST 18|"
        + "LD (a8),A|POP HL|LD (C),A|-|-|PUSH HL|AND A,d8|RST 20|"
        + "ADD SP,e8|JP HL|LD (a16),A|-|-|-|XOR A,d8|RST 28|"
        + "LD A,(a8)|POP AF|LD A,(C)|DI|-|PUSH AF|OR A,d8|RST 30|"
        + "LD HL,SP+e8|LD SP,HL|LD A,(a16)|EI|-|-|CP A,d8|RST 38").split("\\|");
    private static final String[] SHIFTS = {"RLC", "RRC", "RL", "RR", "SLA", "SRA", "SWAP", "SRL"};
    private static final String[] BYTES = {"B", "C", "D", "E", "H", "L", "(HL)", "A"};
    private static final String LETTERS = "AFBCDEHL";

    final int[] memory = new int[65536];
    final TreeSet<Integer> touched = new TreeSet<>();
    private final int[] letters = new int[8];
    private int sp;
    private int pc;
    private boolean ime;
    private boolean waits;
    private boolean halt;
    private boolean bug;
    private int counter;
    private int spent;
    private long total;

    static String name(int opcode) {
        return NAMES[opcode];
    }

    boolean poke(int place, int v) {
        if (place < 0 || place > 65535) {
            return false;
        }
        memory[place] = v & 255;
        touched.add(place);
        return true;
    }

    boolean feed(int place, int a, int b, int c, int d) {
        if (place < 0 || place + 15L > 65535) {
            return false;
        }
        int[] numbers = {a, b, c, d};
        for (int i = 0; i < 16; i++) {
            poke(place + i, numbers[i / 4] >>> (24 - i % 4 * 8));
        }
        return true;
    }

    int peek(int place) {
        return place < 0 || place > 65535 ? -1 : memory[place];
    }

    boolean request(int bit) {
        return bit >= 0 && bit <= 4 && poke(0xFF0F, memory[0xFF0F] | 1 << bit);
    }

    int reg(int i) {
        switch (i) {
            case 0: return wide("AF");
            case 1: return wide("BC");
            case 2: return wide("DE");
            case 3: return wide("HL");
            case 4: return sp;
            case 5: return pc;
            default: return -1;
        }
    }

    boolean set(int i, int v) {
        if (i < 0 || i > 5) {
            return false;
        }
        setWide(new String[] {"AF", "BC", "DE", "HL", "SP", "PC"}[i], v);
        return true;
    }

    int look(int what) {
        int[] all = {ime ? 1 : 0, waits ? 1 : 0, halt ? 1 : 0, bug ? 1 : 0, counter};
        return what < 0 || what > 4 ? -1 : all[what];
    }

    int mcycles() {
        return (int) (total % (1L << 30));
    }

    int run(int n) {
        if (n < 1 || n > 2000) {
            return -1;
        }
        int taken = 0;
        while (taken < n && step() != 2) {
            taken++;
        }
        return taken;
    }

    int step() {
        spent = 0;
        int pending = memory[0xFFFF] & memory[0xFF0F] & 31;
        int answer = 0;
        if (ime && pending != 0) {
            ime = false;
            halt = false;
            int bit = Integer.numberOfTrailingZeros(pending);
            poke(0xFF0F, memory[0xFF0F] - (1 << bit));
            spent = 3;
            push(pc);
            pc = new int[] {0x40, 0x48, 0x50, 0x58, 0x60}[bit];
        } else if (halt && pending == 0) {
            spent = 1;
            answer = 1;
        } else if (NAMES[memory[pc]].equals("-")) {
            return 2;
        } else {
            instruction(pending != 0);
        }
        total += spent;
        for (int i = 0; i < spent; i++) {
            time();
        }
        return answer;
    }

    private void time() {
        counter = counter == 255 ? 0 : counter + 1;
        if (counter % 64 == 0) {
            poke(0xFF04, memory[0xFF04] + 1);
        }
        int period = new int[] {256, 4, 16, 64}[memory[0xFF07] % 4];
        if (memory[0xFF07] / 4 % 2 == 1 && counter % period == 0) {
            if (memory[0xFF05] == 255) {
                poke(0xFF05, memory[0xFF06]);
                request(2);
            } else {
                poke(0xFF05, memory[0xFF05] + 1);
            }
        }
    }

    private void instruction(boolean pending) {
        halt = false;
        boolean due = waits;
        int start = pc;
        String name = NAMES[fetch()];
        if (bug) {
            bug = false;
            pc = start;
        }
        switch (name) {
            case "HALT":
                if (pending && !ime) {
                    if (due) {
                        pc = start;
                    } else {
                        bug = true;
                    }
                } else {
                    halt = true;
                }
                break;
            case "DI":
                ime = false;
                waits = false;
                due = false;
                break;
            case "EI":
                waits = !ime;
                break;
            case "CB":
                bits(fetch());
                break;
            default:
                plain(name);
        }
        if (due) {
            waits = false;
            ime = true;
        }
    }

    private void plain(String name) {
        String[] words = name.split("[ ,]");
        String one = words.length > 1 ? words[1] : "";
        String two = words.length > 2 ? words[2] : "";
        switch (words[0]) {
            case "NOP": break;
            case "LD": load(one, two); break;
            case "INC":
            case "DEC": count(one, words[0].equals("INC") ? 1 : -1); break;
            case "JR":
            case "JP":
            case "CALL":
            case "RET":
            case "RETI":
            case "RST": go(words[0], one, two); break;
            case "PUSH": spent++; push(wide(one)); break;
            case "POP": setWide(one, pop()); break;
            case "RLCA":
            case "RRCA":
            case "RLA":
            case "RRA":
                put("A", shifted(words[0].substring(0, words[0].length() - 1), get("A")));
                setFlag('Z', false);
                break;
            case "DAA": decimal(); break;
            case "CPL": put("A", 255 - get("A")); setFlag('N', true); setFlag('H', true); break;
            case "SCF": flags(flag('Z'), false, false, true); break;
            case "CCF": flags(flag('Z'), false, false, !flag('C')); break;
            case "ADD":
                if (one.equals("HL")) {
                    addHl(wide(two));
                } else if (one.equals("SP")) {
                    spent += 2;
                    sp = spAnd(fetch());
                } else {
                    put("A", sum(get("A"), get(two), 0));
                }
                break;
            default: arithmetic(words[0], get(two));
        }
    }

    private void arithmetic(String word, int v) {
        int a = get("A");
        int carry = flag('C') ? 1 : 0;
        switch (word) {
            case "ADC": put("A", sum(a, v, carry)); break;
            case "SUB": put("A", difference(a, v, 0)); break;
            case "SBC": put("A", difference(a, v, carry)); break;
            case "CP": difference(a, v, 0); break;
            case "AND": put("A", a & v); flags(get("A") == 0, false, true, false); break;
            case "XOR": put("A", a ^ v); flags(get("A") == 0, false, false, false); break;
            case "OR": put("A", a | v); flags(get("A") == 0, false, false, false); break;
            default: throw new IllegalStateException(word);
        }
    }

    private void load(String to, String from) {
        if (from.equals("SP+e8")) {
            spent++;
            setWide("HL", spAnd(fetch()));
        } else if (to.equals("SP") && from.equals("HL")) {
            spent++;
            sp = wide("HL");
        } else if (from.equals("SP")) {
            int place = fetch2();
            write(place, sp % 256);
            write((place + 1) % 65536, sp / 256);
        } else if (from.equals("d16")) {
            setWide(to, fetch2());
        } else {
            put(to, get(from));
        }
    }

    private void count(String what, int by) {
        if (what.length() == 2) {
            spent++;
            setWide(what, wide(what) + by);
            return;
        }
        int v = get(what);
        boolean carry = flag('C');
        int next = by > 0 ? sum(v, 1, 0) : difference(v, 1, 0);
        setFlag('C', carry);
        put(what, next);
    }

    private void go(String word, String one, String two) {
        boolean conditional = one.equals("NZ") || one.equals("Z") || one.equals("NC") || one.equals("CY");
        boolean taken = !conditional || flag(one.contains("Z") ? 'Z' : 'C') == !one.startsWith("N");
        int target = 0;
        if (word.equals("JR")) {
            int distance = fetch();
            target = (pc + (distance > 127 ? distance - 256 : distance) + 65536) % 65536;
        } else if (one.equals("a16") || two.equals("a16")) {
            target = fetch2();
        } else if (one.equals("HL")) {
            pc = wide("HL");
            return;
        } else if (word.equals("RST")) {
            target = Integer.parseInt(one, 16);
        } else if (conditional) {
            spent++;
        }
        if (!taken) {
            return;
        }
        spent++;
        if (word.equals("CALL") || word.equals("RST")) {
            push(pc);
        } else if (word.startsWith("RET")) {
            target = pop();
            ime = ime || word.equals("RETI");
        }
        pc = target;
    }

    private void bits(int opcode) {
        String where = BYTES[opcode % 8];
        int number = opcode / 8 % 8;
        int v = get(where);
        if (opcode < 64) {
            put(where, shifted(SHIFTS[number], v));
        } else if (opcode < 128) {
            flags(!Integer.toBinaryString(256 + v).substring(8 - number, 9 - number).equals("1"), false, true, flag('C'));
        } else if (opcode < 192) {
            put(where, v - (v & 1 << number));
        } else {
            put(where, v - (v & 1 << number) + (1 << number));
        }
    }

    private int shifted(String word, int v) {
        boolean right = word.contains("RR") || word.equals("SRA") || word.equals("SRL");
        boolean out = right ? v % 2 == 1 : v > 127;
        boolean in = false;
        switch (word) {
            case "SWAP":
                flags(v == 0, false, false, false);
                return v % 16 * 16 + v / 16;
            case "RLC":
            case "RRC": in = out; break;
            case "RL":
            case "RR": in = flag('C'); break;
            case "SRA": in = v > 127; break;
            default: break;
        }
        int result = right ? v / 2 + (in ? 128 : 0) : v * 2 % 256 + (in ? 1 : 0);
        flags(result == 0, false, false, out);
        return result;
    }

    private void decimal() {
        int a = get("A");
        int now = a;
        boolean carry = flag('C');
        if (flag('N')) {
            now -= flag('H') ? 6 : 0;
            now -= carry ? 96 : 0;
        } else {
            if (flag('H') || a % 16 > 9) {
                now += 6;
            }
            if (carry || a > 153) {
                now += 96;
                carry = true;
            }
        }
        put("A", (now + 256) % 256);
        flags(get("A") == 0, flag('N'), false, carry);
    }

    private int sum(int x, int y, int carry) {
        int all = x + y + carry;
        flags(all % 256 == 0, false, x % 16 + y % 16 + carry > 15, all > 255);
        return all % 256;
    }

    private int difference(int x, int y, int borrow) {
        int rest = (x - y - borrow + 512) % 256;
        flags(rest == 0, true, x % 16 < y % 16 + borrow, x < y + borrow);
        return rest;
    }

    private void addHl(int v) {
        spent++;
        int hl = wide("HL");
        flags(flag('Z'), false, hl % 4096 + v % 4096 >= 4096, hl + v >= 65536);
        setWide("HL", hl + v);
    }

    private int spAnd(int v) {
        flags(false, false, sp % 16 + v % 16 >= 16, sp % 256 + v >= 256);
        return (sp + (v > 127 ? v - 256 : v) + 65536) % 65536;
    }

    private int get(String what) {
        return what.length() == 1 ? letters[LETTERS.indexOf(what)] : what.equals("d8") ? fetch() : read(place(what));
    }

    private void put(String what, int v) {
        if (what.length() == 1) {
            letters[LETTERS.indexOf(what)] = v;
        } else {
            write(place(what), v);
        }
    }

    private int place(String what) {
        int hl = wide("HL");
        switch (what) {
            case "(BC)": return wide("BC");
            case "(DE)": return wide("DE");
            case "(HL)": return hl;
            case "(HL+)": setWide("HL", hl + 1); return hl;
            case "(HL-)": setWide("HL", hl - 1); return hl;
            case "(C)": return 0xFF00 + get("C");
            case "(a8)": return 0xFF00 + fetch();
            case "(a16)": return fetch2();
            default: throw new IllegalStateException(what);
        }
    }

    private int wide(String what) {
        return what.equals("SP") ? sp : what.equals("PC") ? pc
            : letters[LETTERS.indexOf(what.charAt(0))] * 256 + letters[LETTERS.indexOf(what.charAt(1))];
    }

    private void setWide(String what, int v) {
        int whole = Math.floorMod(v, 65536);
        if (what.equals("SP")) {
            sp = whole;
        } else if (what.equals("PC")) {
            pc = whole;
        } else {
            letters[LETTERS.indexOf(what.charAt(0))] = whole / 256;
            letters[LETTERS.indexOf(what.charAt(1))] = what.equals("AF") ? whole % 256 / 16 * 16 : whole % 256;
        }
    }

    private boolean flag(char which) {
        return letters[1] / (1 << 7 - "ZNHC".indexOf(which)) % 2 == 1;
    }

    private void setFlag(char which, boolean on) {
        int weight = 1 << 7 - "ZNHC".indexOf(which);
        if (flag(which) != on) {
            letters[1] += on ? weight : -weight;
        }
    }

    private void flags(boolean z, boolean n, boolean h, boolean c) {
        setFlag('Z', z);
        setFlag('N', n);
        setFlag('H', h);
        setFlag('C', c);
    }

    private int fetch() {
        int v = read(pc);
        pc = (pc + 1) % 65536;
        return v;
    }

    private int fetch2() {
        int low = fetch();
        return low + 256 * fetch();
    }

    private int read(int place) {
        spent++;
        return memory[place];
    }

    private void write(int place, int v) {
        spent++;
        poke(place, v);
        if (place == 0xFF04) {
            memory[place] = 0;
            counter = 0;
        }
    }

    private void push(int v) {
        sp = (sp + 65535) % 65536;
        write(sp, v / 256);
        sp = (sp + 65535) % 65536;
        write(sp, v % 256);
    }

    private int pop() {
        int low = read(sp);
        sp = (sp + 1) % 65536;
        int high = read(sp);
        sp = (sp + 1) % 65536;
        return low + 256 * high;
    }
}
