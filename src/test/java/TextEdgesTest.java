/** The edges that "THE ASSEMBLER" and "Promise 15: list" name, one method a sentence. */
final class TextEdgesTest {
    private static final String[] STATEMENTS = ("org word byte ret reti nop br pop clr mov add addc subc sub cmp dadd bit "
        + "bic bis xor and rrc rra push swpb sxt call jne jeq jnc jc jn jge jl jmp").split(" ");
    private static final String[] REGISTERS = ("r0 r1 r2 r3 r4 r5 r6 r7 r8 r9 r10 r11 r12 r13 r14 r15 pc sp sr").split(" ");

    public static void main(String[] args) {
        emptyLines();
        nothingCountsBehindSemicolons();
        blanksOrNot();
        otherBytesAreNoTokens();
        lettersAndDigitsOfLabels();
        namesAreNoLabels();
        whereLabelsAre();
        digitsOfNumbers();
        numbersInTheirBounds();
        labelsAndNumbersBy16Bits();
        bytesInTheirBounds();
        placesByOrg();
        onlyThoseWithB();
        registersInBrackets();
        sourcesAndDestinations();
        numbersMadeByR3AndR2();
        symbolicFromItsOwnPlace();
        evenPlaces();
        beyondTheEnd();
        labelsToldTwice();
        sixtyLabels();
        labelsNotTold();
        jumpsOddOrTooFar();
        theFirstFaultAlongTheText();
        endsOfLinesAndText();
        listedNumbers();
        listedConstants();
        listedWords();
        listedAtTheEnd();
        listedJumps();
        Check.finish();
    }

    private static void makes(String text, int... words) {
        NapMachine m = new NapMachine();
        Check.same(text, Check.assemble(m, text), 2 * words.length);
        Check.same(text + ": fault", m.fault(), 0);
        for (int k = 0; k < words.length; k++) {
            Check.same(text + ": word " + k, Check.word(m, 0xC000 + 2 * k), words[k]);
        }
    }

    private static void faults(String text, int kind, int place) {
        NapMachine m = new NapMachine();
        Check.same(text, Check.assemble(m, text), -1 - place);
        Check.same(text + ": fault", m.fault(), kind);
    }

    /** "LINE: [ LABEL : ] [ STATEMENT ]" */
    private static void emptyLines() {
        makes("");
        makes("\n");
        makes("   ");
        makes("\n\n \n\n");
        makes("a:");
        makes("a:\n");
        makes("\nnop\n\n", 0x4303);
        makes("nop", 0x4303);
        makes("a:nop\nb:\nc:nop", 0x4303, 0x4303);
        faults(":", 1, 0);
        faults("a::", 1, 2);
        faults("a:b:", 1, 2);
        faults("a:nop nop", 1, 6);
        faults("a", 1, 1);
    }

    /** "behind ; nothing counts" */
    private static void nothingCountsBehindSemicolons() {
        makes(";");
        makes(";;");
        makes("; mov $ \u00ff\u0080\u0000 :");
        makes("nop;nop", 0x4303);
        makes("nop ; x\nnop;", 0x4303, 0x4303);
        makes("a: ; b: c:\n;\n");
        faults("mov ;r4,r5", 1, 10);
        faults("mov ;r4\n,r5", 1, 7);
        faults(";\n$", 1, 2);
    }

    /** "Blanks (32) between TOKENS or not." */
    private static void blanksOrNot() {
        makes("a:mov#5,r4", 0x4034, 5);
        makes("  a  :  mov  #  5  ,  r4  ", 0x4034, 5);
        makes("mov@r4+,5(r6)", 0x44B6, 5);
        makes(" mov @ r4 + , 5 ( r6 ) ", 0x44B6, 5);
        makes("word - 1 , - 2", 0xFFFF, 0xFFFE);
        makes("a: word a + 1 , a - 1", 0xC001, 0xBFFF);
        makes("mov.b r4,r5", 0x4445);
        makes("mov.b@r4,r5", 0x4465);
        faults("mov .b r4,r5", 1, 4);
        faults("mov. b r4,r5", 1, 3);
        faults("mo v r4,r5", 1, 3);
        faults("word 1 2", 1, 7);
        faults("movr4,r5", 1, 5);
        faults("mov r 4,r5", 1, 6);
        faults("word 0 x1", 1, 7);
        faults("mov\tr4,r5", 1, 3);
        faults("nop\r", 1, 3);
    }

    /** "1 no TOKEN" */
    private static void otherBytesAreNoTokens() {
        for (int sign = 0; sign < 256; sign++) {
            boolean token = " \n;:,()&@#+-".indexOf(sign) >= 0 || (sign >= '0' && sign <= '9') || (sign >= 'a' && sign <= 'z');
            if (!token) {
                faults("nop\n" + (char) sign, 1, 4);
                faults("word 1" + (char) sign, 1, 6);
            }
        }
    }

    /** "LABEL: a small letter, then letters and digits, 8 in all at most" */
    private static void lettersAndDigitsOfLabels() {
        for (char first = 'a'; first <= 'z'; first++) {
            makes(first + ":");
            makes(first + "Z9: word " + first + "Z9", 0xC000);
        }
        for (String bad : new String[] {"A", "Ab", "Z", "1a", "_a"}) {
            NapMachine m = new NapMachine();
            int answer = Check.assemble(m, bad + ":");
            Check.same(bad + ":", answer, -1);
            Check.same("its kind", m.fault(), 1);
        }
        makes("abcdefgh: word abcdefgh", 0xC000);
        makes("aBCDEFG8: word aBCDEFG8", 0xC000);
        makes("abcdefgh:\nabcdefgi: word abcdefgh,abcdefgi", 0xC000, 0xC000);
        makes("a:\naA:word aA", 0xC000);
        faults("abcdefghi:", 1, 0);
        faults("nop\n abcdefghijklmnop:", 1, 5);
        faults("word abcdefghi", 1, 5);
        faults("a_b:", 1, 1);
    }

    /** "none of the names below" */
    private static void namesAreNoLabels() {
        for (String name : STATEMENTS) {
            NapMachine m = new NapMachine();
            Check.same(name + ":", Check.assemble(m, name + ":"), -1 - name.length());
            Check.same("its kind", m.fault(), 1);
            Check.same("word " + name, Check.assemble(m, "word " + name), -6);
            Check.same("its kind", m.fault(), 1);
            makes(name + "x: word " + name + "x", 0xC000);
        }
        for (String name : REGISTERS) {
            faults(name + ":", 1, 0);
            faults(name, 1, 0);
            faults("word " + name, 1, 5);
            makes(name + "x: word " + name + "x", 0xC000);
        }
        for (String label : new String[] {"r", "r16", "r20", "r99", "r00", "r01", "r010", "r160", "p", "s", "b", "x", "ps",
            "pC", "sP", "mOv", "movb", "inc", "dec", "tst", "rla", "jz"}) {
            makes(label + ": word " + label, 0xC000);
        }
    }

    /** "it is where what stands in its LINE begins (without a STATEMENT: where one would go on; with org: what org tells)" */
    private static void whereLabelsAre() {
        NapMachine m = new NapMachine();
        Check.assemble(m, "byte 1\na:\nb: byte 2,3\nc:\nd: word 4\nbyte 5\ne: nop\nf: org 0x301\ng:\nh: nop\ni: org -2\nj:");
        int[] due = {-1, 0xC001, 0xC001, 0xC003, 0xC004, -1, 0xC008, 0x301, 0x301, 0x302, 0xFFFE, 0xFFFE};
        for (int line = 0; line < due.length; line++) {
            Check.same("LINE " + line, m.label(line), due[line]);
        }
        Check.assemble(m, "org 0xffff\na: byte 1\nb:");
        Check.same("the last byte", m.label(1), 0xFFFF);
        Check.same("behind it, by 16 bits", m.label(2), 0);
    }

    /** "NUMBER: 1 to 5 digits, or 0x and 1 to 4 of 0 .. 9, a .. f" */
    private static void digitsOfNumbers() {
        makes("word 0,00,00000,7,00007,65535,12345", 0, 0, 0, 7, 7, 65535, 12345);
        makes("word 0x0,0xf,0x0f,0x00ff,0xffff,0x9,0xa", 0, 15, 15, 255, 0xFFFF, 9, 10);
        faults("word 000000", 1, 5);
        faults("word 123456", 1, 5);
        faults("word 1, 000001", 1, 8);
        faults("word 0x", 1, 5);
        faults("word 0x,1", 1, 5);
        faults("word 0x00000", 1, 5);
        faults("word 0xfffff", 1, 5);
        faults("word 0xg", 1, 5);
        faults("word 0xA", 1, 5);
        faults("word 0xfg", 1, 8);
        faults("word 0XF", 1, 6);
        faults("word 1f", 1, 6);
        faults("word ffff", 4, 5);
        faults("12345", 1, 0);
    }

    /** "NUMBERS from -32768 to 65535", "2 a NUMBER, or EXPR of NUMBERS, that is too great (at the EXPR's first byte)" */
    private static void numbersInTheirBounds() {
        makes("word 65535,-32768,-1,-0", 0xFFFF, 0x8000, 0xFFFF, 0);
        String[] great = {"65536", "99999", "-32769", "-65535", "-65536", "-99999", "- 40000", "-0xffff", "-0x8001"};
        String[] ahead = {"word ", "byte ", "org ", "jmp ", "mov #", "mov &", "mov ", "push #", "call ", "br ", "mov r4,",
            "mov r4,&", "clr ", "pop &", "word 1,", "byte 1 , "};
        for (String number : great) {
            for (String start : ahead) {
                faults(start + number, 2, start.length());
                faults("nop\n" + start + number + " $", 2, 4 + start.length());
            }
        }
        for (String number : new String[] {"65536", "-32769"}) {
            faults("mov " + number + "(r4),r5", 2, 4);
            faults("mov r5," + number + "(r4)", 2, 7);
        }
        makes("mov #65534,r4", 0x4034, 0xFFFE);
        makes("mov #-32768,r4", 0x4034, 0x8000);
        makes("mov -32768(r4),65535(r5)", 0x4495, 0x8000, 0xFFFF);
        makes("mov &65535,&-32768", 0x4292, 0xFFFF, 0x8000);
        faults("a: word a+65536", 2, 8);
        faults("a: word 1,a - 99999", 2, 10);
        faults("word zz+65536", 2, 5);
    }

    /** "all by 16 bits" */
    private static void labelsAndNumbersBy16Bits() {
        makes("a: word a+0x3fff,a+0x4000,a+65535,a-0xc000,a-0xc001,a-65535",
            0xFFFF, 0, 0xBFFF, 0, 0xFFFF, 0xC001);
        makes("word -1,65535", 0xFFFF, 0xFFFF);
        NapMachine m = new NapMachine();
        Check.same("org by 16 bits", Check.assemble(m, "org -2\na: word a+3\norg -32768\nword 7"), 4);
        Check.same("a+3", Check.word(m, 0xFFFE), 1);
        Check.same("-32768", Check.word(m, 0x8000), 7);
    }

    /** "a byte without a LABEL that is not -128 to 255", "'byte' EXPR { , EXPR } (low bytes)" */
    private static void bytesInTheirBounds() {
        NapMachine m = new NapMachine();
        Check.same("bytes", Check.assemble(m, "byte -128,-1,0,127,128,255,0xff\na: byte a,a+255,a+256,a-65535"), 11);
        int[] due = {0x80, 0xFF, 0, 127, 128, 255, 255, 7, 6, 7, 8};
        for (int k = 0; k < due.length; k++) {
            Check.same("byte " + k, m.peek(0xC000 + k), due[k]);
        }
        for (String number : new String[] {"256", "-129", "0x100", "65535", "-32768"}) {
            faults("byte " + number, 2, 5);
            faults("byte 1,255 , " + number, 2, 13);
        }
        faults("byte - 129", 2, 5);
        faults("byte 256,$", 2, 5);
        faults("byte 256 $", 2, 5);
        faults("byte", 1, 4);
        faults("byte 1,", 1, 7);
        faults("byte ,", 1, 5);
    }

    /** "'org' EXPR (without LABELS; what follows is there; 0xC000 at first)" */
    private static void placesByOrg() {
        NapMachine m = new NapMachine();
        Check.same("org", Check.assemble(m, "byte 9\norg 0x200\nbyte 1\norg 65535\nbyte 2\norg 0x200\norg 0x300\nbyte 3"), 4);
        Check.same("0xc000 at first", m.peek(0xC000), 9);
        Check.same("0x200", m.peek(0x200), 1);
        Check.same("65535", m.peek(0xFFFF), 2);
        Check.same("0x300", m.peek(0x300), 3);
        Check.assemble(m, "byte 5");
        Check.same("0xc000 again", m.peek(0xC000), 5);
        faults("org", 1, 3);
        faults("org a", 1, 4);
        faults("a: org a", 1, 7);
        faults("a: org 1+1", 1, 8);
        faults("org 1,2", 1, 5);
        faults("org #1", 1, 4);
        faults("org r4", 1, 4);
    }

    /** "rrc rra push (these, and TWO, with .b right behind or not), swpb sxt call" */
    private static void onlyThoseWithB() {
        for (String name : STATEMENTS) {
            NapMachine m = new NapMachine();
            boolean two = " mov add addc subc sub cmp dadd bit bic bis xor and ".contains(" " + name + " ");
            boolean takes = two || name.equals("rrc") || name.equals("rra") || name.equals("push");
            String text = name + ".b r4" + (two ? ",r5" : "");
            int answer = Check.assemble(m, text);
            Check.same(text, answer, takes ? 2 : -1 - name.length());
            if (takes) {
                int code = Check.word(m, 0xC000);
                Check.assemble(m, name + " r4" + (two ? ",r5" : ""));
                Check.same(text + ": B", code, Check.word(m, 0xC000) | 0x40);
            }
            faults(name + " .b r4", 1, name.length() + 1);
            faults(name + ".c", 1, name.length());
            faults(name + ".", 1, name.length());
            faults(name + ".B r4", 1, name.length());
        }
        faults("mov.b.b r4,r5", 1, 5);
        faults("mov r4.b,r5", 1, 6);
        faults(".b", 1, 0);
    }

    /** "in ( ) and behind @ neither r0, r2, r3 nor pc, sr" */
    private static void registersInBrackets() {
        for (int k = 0; k < REGISTERS.length; k++) {
            String name = REGISTERS[k];
            int r = k < 16 ? k : k - 16;
            makes("mov " + name + "," + name, 0x4000 | r << 8 | r);
            makes("push " + name, 0x1200 | r);
            if (r == 0 || r == 2 || r == 3) {
                faults("mov @" + name + ",r4", 1, 5);
                faults("mov @" + name + "+,r4", 1, 5);
                faults("mov 2(" + name + "),r4", 1, 6);
                faults("mov r4,2( " + name + ")", 1, 10);
                faults("call @" + name, 1, 6);
            } else {
                makes("mov @" + name + ",r4", 0x4024 | r << 8);
                makes("mov @" + name + "+,r4", 0x4034 | r << 8);
                makes("mov 2(" + name + "),r4", 0x4014 | r << 8, 2);
                makes("mov r4,2(" + name + ")", 0x4480 | r, 2);
                makes("call @" + name + "+", 0x12B0 | r);
            }
        }
        faults("mov 2(r16),r4", 1, 6);
        faults("mov @r16,r4", 1, 5);
        faults("mov 2(4),r4", 1, 6);
        faults("mov 2(),r4", 1, 6);
        faults("mov 2(r4", 1, 8);
        faults("mov (r4),r5", 1, 4);
        faults("mov #2(r4),r5", 1, 6);
        faults("mov &2(r4),r5", 1, 6);
        faults("mov 2(r4)+,r5", 1, 9);
    }

    /** "DST: REG | EXPR ( REG ) | & EXPR | EXPR. SRC: DST | @ REG | @ REG + | # EXPR." */
    private static void sourcesAndDestinations() {
        for (String source : new String[] {"@r4", "@r4+", "#5", "#a"}) {
            faults("a: mov r4," + source, 1, 10);
            faults("a: pop " + source, 1, 7);
            faults("a: clr " + source, 1, 7);
            faults("a: jmp " + source, 1, 7);
        }
        makes("br @r4", 0x4420);
        makes("br 2(r4)", 0x4410, 2);
        makes("br &2", 0x4210, 2);
        makes("br #-1", 0x4330);
        makes("br #8", 0x4230);
        makes("pop 2(r4)", 0x41B4, 2);
        makes("pop pc", 0x4130);
        makes("clr &2", 0x4382, 2);
        makes("clr r3", 0x4303);
        makes("ret\nreti\nnop", 0x4130, 0x1300, 0x4303);
        for (String name : new String[] {"ret", "reti", "nop"}) {
            faults(name + " r4", 1, name.length() + 1);
            faults(name + " 1", 1, name.length() + 1);
        }
        for (String name : new String[] {"br", "pop", "clr", "call", "push", "jmp", "word", "mov"}) {
            faults(name, 1, name.length());
            faults(name + "\n", 1, name.length());
            faults(name + " ;r4", 1, name.length() + 4);
            faults(name + " ,", 1, name.length() + 1);
        }
        faults("jmp r4", 1, 4);
        faults("jmp &2", 1, 4);
        faults("jmp 2(r4)", 1, 5);
        faults("push r4,r5", 1, 7);
        faults("mov r4,r5,r6", 1, 9);
        faults("word #1", 1, 5);
        faults("word a+", 1, 7);
        faults("word a+-1", 1, 7);
        faults("word a+a", 1, 7);
        faults("word -a", 1, 6);
        faults("word --1", 1, 6);
        faults("word +1", 1, 5);
        faults("word 1+1", 1, 6);
        faults("word a+1+1", 1, 8);
    }

    /** "# of a NUMBER .. 65535, 0, 1, 2, 4, 8 is made by R3 .. and R2 .., but of push and call by PC, as is every other #" */
    private static void numbersMadeByR3AndR2() {
        for (int number = -12; number <= 12; number++) {
            int code = number == -1 ? 0x4334 : number == 0 ? 0x4304 : number == 1 ? 0x4314 : number == 2 ? 0x4324
                : number == 4 ? 0x4224 : number == 8 ? 0x4234 : 0;
            if (code != 0) {
                makes("mov #" + number + ",r4", code);
                makes("mov.b #" + number + ",r4", code | 0x40);
                makes("rra #" + number, 0x1100 | code >> 8 & 15 | code & 0x30);
                makes("rrc.b #" + number, 0x1040 | code >> 8 & 15 | code & 0x30);
            } else {
                makes("mov #" + number + ",r4", 0x4034, number & 0xFFFF);
                makes("sxt #" + number, 0x11B0, number & 0xFFFF);
            }
            makes("push #" + number, 0x1230, number & 0xFFFF);
            makes("push.b #" + number, 0x1270, number & 0xFFFF);
            makes("call #" + number, 0x12B0, number & 0xFFFF);
        }
        makes("mov #65535,r4", 0x4334);
        makes("mov #0xffff,r4", 0x4334);
        makes("mov #0x0008,r4", 0x4234);
        makes("mov #00004,r4", 0x4224);
        makes("mov #65534,r4", 0x4034, 0xFFFE);
        makes("mov.b #255,r4", 0x4074, 0xFF);
        makes("a: mov #a-0xc000,r4", 0x4034, 0);
        makes("a: mov #a-0xbff8,r4", 0x4034, 8);
        makes("org 0xc000\nmov #a,r4\na:", 0x4034, 0xC004);
    }

    /** "EXPR alone is symbolic (X is told from its own place by PC)" */
    private static void symbolicFromItsOwnPlace() {
        makes("mov 0xc002,0xc004", 0x4090, 0, 0);
        makes("mov 0xc000,0xc000", 0x4090, 0xFFFE, 0xFFFC);
        makes("mov r4,0", 0x4480, 0x3FFE);
        makes("mov 65535,r4", 0x4014, 0x3FFD);
        makes("mov -1,r4", 0x4014, 0x3FFD);
        makes("mov #5,0xc006", 0x40B0, 5, 2);
        makes("a: push a", 0x1210, 0xFFFE);
        NapMachine m = Check.machine("mov v,r5\nmov r5,w\nbr x\nv: word 0x1234\nw: word 0\nx: nop");
        m.run(3, -1);
        Check.same("what is read", m.register(5), 0x1234);
        Check.same("what is written", Check.word(m, 0xC00E), 0x1234);
        Check.same("where it goes: the word at x", m.register(0), 0x4302);
    }

    /** "Words and instructions stand at even places (one goes on by 1, where it is odd)." */
    private static void evenPlaces() {
        NapMachine m = new NapMachine();
        m.poke(0xC001, 0x77);
        Check.same("bytes and words", Check.assemble(m, "byte 1\nword 0x302\nbyte 4\nnop\norg 0xd001\nret\norg 0xd101\nbyte 5"), 9);
        Check.same("nothing comes between", m.peek(0xC001), 0x77);
        Check.same("the word", Check.word(m, 0xC002), 0x302);
        Check.same("nop", Check.word(m, 0xC006), 0x4303);
        Check.same("ret", Check.word(m, 0xD002), 0x4130);
        Check.same("a byte stands anywhere", m.peek(0xD101), 5);
        makes("byte 1,2\nword 3", 0x201, 3);
    }

    /** "what goes beyond 0xFFFF (at the end of its LINE)" */
    private static void beyondTheEnd() {
        NapMachine m = new NapMachine();
        Check.same("the last byte", Check.assemble(m, "org 0xffff\nbyte 1"), 1);
        Check.same("the last word", Check.assemble(m, "org 0xfffe\nword 1"), 2);
        Check.same("the last three words", Check.assemble(m, "org 0xfffa\nmov &1,&2"), 6);
        Check.same("two bytes", Check.assemble(m, "org 0xfffe\nbyte 1,2\na:\n;\n"), 2);
        Check.same("org goes back", Check.assemble(m, "org 0xfffe\nword 1\norg 0\nbyte 1"), 3);
        faults("org 0xffff\nbyte 1,2", 2, 19);
        faults("org 0xffff\nbyte 1,2\nnop", 2, 19);
        faults("org 0xffff\nbyte 1,2 ; so\nnop", 2, 24);
        faults("org 0xffff\nbyte 1,2   ", 2, 22);
        faults("org 0xffff\nbyte 1\nbyte 2\n", 2, 24);
        faults("org 0xffff\nword 1", 2, 17);
        faults("org 0xffff\nnop\n", 2, 14);
        faults("org 0xfffe\nmov #5,r4\n", 2, 20);
        faults("org 0xfffc\nmov &1,&2\n", 2, 20);
        faults("org 0xfffe\nword 1\nret", 2, 21);
        faults("org 0xfffe\nword 1,2\n$", 2, 19);
        faults("org 0xfffe\nword 1,2,$", 1, 20);
        faults("org 0xfffe\nword 1,2 3", 1, 20);
        faults("jmp x\norg 0xfffe\nword 1,2", 2, 25);
    }

    /** "3 a word that is no name ahead of all else in a LINE, and was told as a LABEL (at it, be a : behind it or not)" */
    private static void labelsToldTwice() {
        faults("a:\na:", 3, 3);
        faults("a:\n  a:", 3, 5);
        faults("a: nop\na", 3, 7);
        faults("a:\na nop", 3, 3);
        faults("a:\na$", 3, 3);
        faults("a:\nb:\na:\nb:", 3, 6);
        faults("a:\nb nop", 1, 5);
        makes("a:\naa:\naA:");
        makes("a:\nb: word a", 0xC000);
    }

    /** "or is a 61st" */
    private static void sixtyLabels() {
        StringBuilder text = new StringBuilder();
        for (int k = 0; k < 60; k++) {
            text.append('l').append(k).append(":\n");
        }
        NapMachine m = new NapMachine();
        Check.same("60 LABELS", Check.assemble(m, text + "byte l0,l59"), 2);
        Check.same("the 60th", m.label(59), 0xC000);
        faults(text + "x:", 3, text.length());
        faults(text + " x nop", 3, text.length() + 1);
        faults(text + "\n x", 3, text.length() + 2);
        faults(text + "l5:", 3, text.length());
        faults(text + "jmp x", 4, text.length() + 4);
        faults(text + "$\nx:", 1, text.length());
    }

    /** "4 a LABEL that is not told (at it)" */
    private static void labelsNotTold() {
        String[] ahead = {"jmp ", "word ", "byte ", "word 1,", "mov #", "mov r4,", "mov r4,&", "push ", "call #", "br ",
            "clr ", "word  "};
        for (String start : ahead) {
            String text = start + "x" + (start.equals("mov #") ? ",r4" : "");
            faults(text, 4, start.length());
            faults("a:\n" + text.replace("x", "x+1") + "\nb:", 4, 3 + start.length());
        }
        faults("mov x(r4),r5", 4, 4);
        faults("mov x,y", 4, 4);
        faults("x: mov x,y", 4, 9);
        faults("a:\nword aA", 4, 8);
        makes("word a\na:", 0xC002);
    }

    /** "5 a JUMP that is odd or too far (at its EXPR)" */
    private static void jumpsOddOrTooFar() {
        makes("jmp 0xc400", 0x3DFF);
        makes("jmp 0xbc02", 0x3E00);
        makes("jmp 0xc002", 0x3C00);
        makes("jmp 0xc000", 0x3FFF);
        makes("jmp -16384", 0x3FFF);
        faults("jmp 0xc402", 5, 4);
        faults("jmp 0xbc00", 5, 4);
        faults("jmp 0xc401", 5, 4);
        faults("jmp 0xc001", 5, 4);
        faults("jmp   0xbc01", 5, 6);
        faults("a: jmp a+1", 5, 7);
        faults("a: jmp a + 1026", 5, 7);
        makes("a: jmp a+1024", 0x3DFF);
        makes("a: jmp a-1022", 0x3E00);
        faults("a: jmp a-1024", 5, 7);
        faults("jmp 0x4000", 5, 4);
        NapMachine m = new NapMachine();
        Check.same("over the end", Check.assemble(m, "org 0xfffe\njmp 0x3fe"), 2);
        Check.same("its offset", Check.word(m, 0xFFFE), 0x3DFF);
        Check.same("over the beginning", Check.assemble(m, "org 0x200\njmp 0xfe02"), 2);
        Check.same("its offset", Check.word(m, 0x200), 0x3E00);
        Check.same("too far over the end", Check.assemble(m, "org 0xfffe\njmp 0x400"), -16);
    }

    /** "FAULTS, the first along the text (4, 5 behind all others)", "(4, 5: the first along the text of both.)" */
    private static void theFirstFaultAlongTheText() {
        faults("$\nword 70000\na:\na:", 1, 0);
        faults("word 70000\n$", 2, 5);
        faults("a:\na:\n$\nword 70000", 3, 3);
        faults("word 70000,$", 2, 5);
        faults("mov $,70000", 1, 4);
        faults("byte 256\norg 0xffff\nbyte 1,2", 2, 5);
        for (String later : new String[] {"jmp x", "jmp 1", "word x"}) {
            faults(later + "\n$", 1, later.length() + 1);
            faults(later + "\nword 70000", 2, later.length() + 6);
            faults("a:\n" + later + "\na:", 3, later.length() + 4);
            faults(later + " $", 1, later.length() + 1);
        }
        faults("jmp x\njmp 1", 4, 4);
        faults("jmp 1\njmp x", 5, 4);
        faults("word 1,x\njmp 1", 4, 7);
        faults("jmp 1\nword x", 5, 4);
        faults("mov #1,x\nmov y,z", 4, 7);
    }

    /** "(the end of a LINE at its 10; of the text: how many bytes there are)" */
    private static void endsOfLinesAndText() {
        faults("mov", 1, 3);
        faults("mov   ", 1, 6);
        faults("mov\n", 1, 3);
        faults("mov  \n", 1, 5);
        faults("mov ; so\nnop", 1, 8);
        faults("mov ; so", 1, 8);
        faults("mov r4,", 1, 7);
        faults("mov r4\nnop", 1, 6);
        faults("word 1,\n2", 1, 7);
        faults("nop\na", 1, 5);
        faults("nop\na\n", 1, 5);
        String longest = "nop;" + " ".repeat(2492) + "\nmov";
        NapMachine m = new NapMachine();
        Check.same("2500 bytes", longest.length(), 2500);
        Check.same("their end", Check.assemble(m, longest), -2501);
        Check.same("its kind", m.fault(), 1);
    }

    private static void tells(int place, String due, int behind, int... words) {
        NapMachine m = new NapMachine();
        for (int k = 0; k < words.length; k++) {
            Check.putWord(m, place + 2 * k, words[k]);
        }
        Check.same("list", Check.listed(m, place), due);
        Check.same(due + ": how many", m.count(6), due.length());
        Check.same(due + ": behind", m.count(7), behind);
        Check.same("its lowest bit aside", Check.listed(m, place + 1), due);
    }

    /** "all in decimals, without a sign (65535 as -1 behind #)" */
    private static void listedNumbers() {
        int[] numbers = {0, 1, 9, 10, 99, 100, 999, 1000, 9999, 10000, 32768, 65534, 65535};
        for (int number : numbers) {
            tells(0xC000, "mov " + number + "(r4),r5", 0xC004, 0x4415, number);
            tells(0xC000, "mov &" + number + ",r5", 0xC004, 0x4215, number);
            tells(0xC000, "mov r5,&" + number, 0xC004, 0x4582, number);
            tells(0xC000, "mov r5," + number + "(r1)", 0xC004, 0x4581, number);
            tells(0xC000, "push #" + (number == 65535 ? "-1" : number), 0xC004, 0x1230, number);
            tells(0xC000, "mov " + number + ",r5", 0xC004, 0x4015, number - 0xC002);
            tells(0xC000, "mov r5," + number, 0xC004, 0x4580, number - 0xC002);
            tells(0xC000, "mov &" + number + ",&" + number, 0xC006, 0x4292, number, number);
        }
    }

    /** "# by a NUMBER, likewise constants", "S = R3 with As 0 is #0, of push and call r3" */
    private static void listedConstants() {
        String[] constants = {"#0", "#1", "#2", "#-1", "#4", "#8"};
        int[] operands = {0x03, 0x13, 0x23, 0x33, 0x22, 0x32};
        for (int k = 0; k < 6; k++) {
            int s = operands[k] & 15;
            int as = operands[k] & 0x30;
            tells(0xC000, "xor " + constants[k] + ",r5", 0xC002, 0xE005 | s << 8 | as);
            tells(0xC000, "xor.b " + constants[k] + ",r3", 0xC002, 0xE043 | s << 8 | as);
            tells(0xC000, "xor " + constants[k] + ",7(r5)", 0xC004, 0xE085 | s << 8 | as, 7);
            tells(0xC000, "rrc " + constants[k], 0xC002, 0x1000 | operands[k]);
            tells(0xC000, "rra.b " + constants[k], 0xC002, 0x1140 | operands[k]);
            tells(0xC000, "sxt " + constants[k], 0xC002, 0x1180 | operands[k]);
            for (int which = 4; which <= 5; which++) {
                int code = 0x1000 | which << 7 | operands[k];
                String name = which == 4 ? "push r3" : "call r3";
                tells(0xC000, k == 0 ? name : "word " + code, 0xC002, code, 7);
            }
        }
        tells(0xC000, "push.b r3", 0xC002, 0x1243);
        tells(0xC000, "mov r2,r3", 0xC002, 0x4203);
        tells(0xC000, "push r2", 0xC002, 0x1202);
    }

    /** "What the ASSEMBLER would not make of that so again (..): word NUMBER." */
    private static void listedWords() {
        for (int number : new int[] {0, 1, 2, 4, 8, 65535}) {
            tells(0xC000, "word " + 0x4034, 0xC002, 0x4034, number);
            tells(0xC000, "word " + 0x40B4, 0xC002, 0x40B4, number, 7);
            tells(0xC000, "word " + 0x1130, 0xC002, 0x1130, number);
            tells(0xC000, "call #" + (number == 65535 ? "-1" : number), 0xC004, 0x12B0, number);
        }
        for (int number : new int[] {3, 5, 7, 9, 255, 65534}) {
            tells(0xC000, "mov #" + number + ",r4", 0xC004, 0x4034, number);
            tells(0xC000, "mov.b #" + number + ",r4", 0xC004, 0x4074, number);
        }
        int[] codes = {0x4024, 0x40A4, 0x1020, 0x1220, 0x12A0, 0x4483, 0x43C3, 0x1301, 0x1310, 0x1320, 0x1330, 0x133F,
            0x1340, 0x1380, 0x13FF, 0x10C4, 0x11C4, 0x12C4, 0, 0x0FFF, 0x1400, 0x1FFF};
        for (int code : codes) {
            tells(0xC000, "word " + code, 0xC002, code, 7, 7);
        }
        tells(0xC000, "reti", 0xC002, 0x1300);
        tells(0xC000, "mov #0,r3", 0xC002, 0x4303);
        tells(0xC000, "mov @r1+,r0", 0xC002, 0x4130);
    }

    /** "X beyond 0xFFFF", "the address behind what list() told latest (0 .. behind 0xFFFF)" */
    private static void listedAtTheEnd() {
        tells(0xFFFE, "mov r4,r5", 0, 0x4405);
        tells(0xFFFE, "word 17430", 0, 0x4416);
        tells(0xFFFE, "word 16438", 0, 0x4036);
        tells(0xFFFE, "word 17540", 0, 0x4484);
        tells(0xFFFE, "word 4624", 0, 0x1210);
        tells(0xFFFE, "word 4656", 0, 0x1230);
        tells(0xFFFC, "push #1", 0, 0x1230, 1);
        tells(0xFFFC, "mov &7,r5", 0, 0x4215, 7);
        tells(0xFFFC, "word 17042", 0xFFFE, 0x4292, 7);
        tells(0xFFFA, "mov &7,&9", 0, 0x4292, 7, 9);
        tells(0xFFFC, "mov 65534,r5", 0, 0x4015, 0);
        tells(0xFFFC, "mov 1,r5", 0, 0x4015, 3);
        tells(0, "word 0", 2);
        tells(0x1FE, "word 0", 0x200);
    }

    /** "jumps by the NUMBER of the address" */
    private static void listedJumps() {
        String[] names = {"jne", "jeq", "jnc", "jc", "jn", "jge", "jl", "jmp"};
        for (int which = 0; which < 8; which++) {
            tells(0xC000, names[which] + " 49154", 0xC002, 0x2000 | which << 10);
            tells(0xC000, names[which] + " 50176", 0xC002, 0x21FF | which << 10);
            tells(0xC000, names[which] + " 48130", 0xC002, 0x2200 | which << 10);
            tells(0xC000, names[which] + " 49152", 0xC002, 0x23FF | which << 10);
        }
        tells(0xFFFE, "jmp 0", 0, 0x3C00);
        tells(0xFFFE, "jmp 1022", 0, 0x3DFF);
        tells(0x200, "jmp 65026", 0x202, 0x3E00);
    }
}
