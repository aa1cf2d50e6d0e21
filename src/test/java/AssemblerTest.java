/** Promises 4 (assemble), 5 (fault), 6 (label), and what the document tells of the ASSEMBLER. */
final class AssemblerTest {
    public static void main(String[] args) {
        twos();
        ones();
        jumps();
        shortNames();
        rows();
        places();
        labels();
        faults();
        faultOrder();
        limits();
        memoryAndTape();
        Check.finish();
    }

    /** The text makes these words from 0xC000 on. */
    private static void makes(String text, int... words) {
        NapMachine m = new NapMachine();
        Check.same(text, Check.assemble(m, text), 2 * words.length);
        Check.same(text + ": fault", m.fault(), 0);
        for (int k = 0; k < words.length; k++) {
            Check.same(text + ": word " + k, Check.word(m, 0xC000 + 2 * k), words[k]);
        }
    }

    private static void faults(String text, int kind, int place) {
        NapMachine m = new NapMachine();
        Check.same(text, Check.assemble(m, text), -1 - place);
        Check.same(text + ": fault", m.fault(), kind);
    }

    private static void twos() {
        makes("mov r4,r5", 0x4405);
        makes("add r4,r5", 0x5405);
        makes("addc r4,r5", 0x6405);
        makes("subc r4,r5", 0x7405);
        makes("sub r4,r5", 0x8405);
        makes("cmp r4,r5", 0x9405);
        makes("dadd r4,r5", 0xA405);
        makes("bit r4,r5", 0xB405);
        makes("bic r4,r5", 0xC405);
        makes("bis r4,r5", 0xD405);
        makes("xor r4,r5", 0xE405);
        makes("and r4,r5", 0xF405);
        makes("and.b r4,r5", 0xF445);
        makes("  mov.b   @ r4 + , 0x10 ( r15 ) ; so", 0x44FF, 0x10);
        makes("mov @r4,r5", 0x4425);
        makes("mov -2(sp),&0x200", 0x4192, 0xFFFE, 0x200);
        makes("mov 0xc010,0xc020", 0x4090, 0x000E, 0x001C);
        makes("mov pc,sr", 0x4002);
        makes("mov r3,r3", 0x4303);
        makes("mov #-1,r4", 0x4334);
        makes("mov #65535,r4", 0x4334);
        makes("mov #0xffff,r4", 0x4334);
        makes("mov #0,r4", 0x4304);
        makes("mov #-0,r4", 0x4304);
        makes("mov #1,r4", 0x4314);
        makes("mov #2,r4", 0x4324);
        makes("mov #4,r4", 0x4224);
        makes("mov #8,r4", 0x4234);
        makes("mov #3,r4", 0x4034, 3);
        makes("mov.b #255,r4", 0x4074, 255);
        makes("mov #-32768,r4", 0x4034, 0x8000);
        makes("a: mov #a+0x4000,r4", 0x4034, 0);
        makes("mov &-1,r4", 0x4214, 0xFFFF);
        makes("mov 1,2", 0x4090, 1 - 0xC002 & 0xFFFF, 2 - 0xC004 & 0xFFFF);
    }

    private static void ones() {
        makes("rrc r4", 0x1004);
        makes("rrc.b @r4", 0x1064);
        makes("swpb r4", 0x1084);
        makes("rra 6(r4)", 0x1114, 6);
        makes("rra.b r4", 0x1144);
        makes("sxt &0x200", 0x1192, 0x200);
        makes("push r4", 0x1204);
        makes("push.b @r4+", 0x1274);
        makes("push #1", 0x1230, 1);
        makes("push.b#1", 0x1270, 1);
        faults("push #70000", 2, 6);
        faults("push q", 4, 5);
        makes("push #-1", 0x1230, 0xFFFF);
        makes("call #8", 0x12B0, 8);
        makes("call 0xc002", 0x1290, 0);
        makes("rrc #1", 0x1013);
        makes("rra #300", 0x1130, 300);
        makes("reti", 0x1300);
        faults("swpb.b r4", 1, 4);
        faults("sxt.b r4", 1, 3);
        faults("call.b r4", 1, 4);
        faults("reti.b", 1, 4);
        faults("reti r4", 1, 5);
        faults("jmp.b 2", 1, 3);
        faults("br.b r4", 1, 2);
        faults("mov .b r4,r5", 1, 4);
        faults("mov.c r4,r5", 1, 3);
    }

    private static void jumps() {
        String[] names = {"jne", "jeq", "jnc", "jc", "jn", "jge", "jl", "jmp"};
        for (int k = 0; k < 8; k++) {
            makes("a: " + names[k] + " a", 0x23FF | k << 10);
            makes(names[k] + " 0xc002", 0x2000 | k << 10);
        }
        makes("jmp 0xc400", 0x3C00 | 0x1FF);
        makes("jmp 0xbc02", 0x3C00 | 0x200);
        faults("jmp 0xc402", 5, 4);
        faults("jmp 0xbc00", 5, 4);
        faults("jmp  0xc003", 5, 5);
        faults("a: jmp a+1", 5, 7);
        faults("jmp 0", 5, 4);
        NapMachine m = new NapMachine();
        Check.same("a jump over the end", Check.assemble(m, "org 0xfffe\njmp 2"), 2);
        Check.same("by 16 bits", Check.word(m, 0xFFFE), 0x3C01);
    }

    private static void shortNames() {
        makes("ret", 0x4130);
        makes("nop", 0x4303);
        makes("br r4", 0x4400);
        makes("br #0xd000", 0x4030, 0xD000);
        makes("br #4", 0x4220);
        makes("br @r4+", 0x4430);
        makes("mov r4,6(r5)\nbr r6\nclr r7", 0x4485, 6, 0x4600, 0x4307);
        makes("br 0xc002", 0x4010, 0);
        makes("pop r4", 0x4134);
        makes("pop &0x200", 0x41B2, 0x200);
        makes("clr r4", 0x4304);
        makes("clr 4(r5)", 0x4385, 4);
        makes("clr 0xc002", 0x4380, 0);
        faults("pop @r4", 1, 4);
        faults("clr #4", 1, 4);
        faults("pop.b r4", 1, 3);
        faults("ret r4", 1, 4);
    }

    private static void rows() {
        makes("word 1,-1, 0x10,a\na:", 1, 0xFFFF, 0x10, 0xC008);
        makes("a: word a-0xc000,a+65535,a-65535", 0, 0xBFFF, 0xC001);
        NapMachine m = new NapMachine();
        Check.same("bytes", Check.assemble(m, "byte -128,255,a,0x7f\na:byte a+1"), 5);
        Check.same("-128", m.peek(0xC000), 0x80);
        Check.same("255", m.peek(0xC001), 255);
        Check.same("low byte of a label", m.peek(0xC002), 4);
        Check.same("0x7f", m.peek(0xC003), 0x7F);
        Check.same("a+1", m.peek(0xC004), 5);
        faults("byte 256", 2, 5);
        faults("byte 1, -129", 2, 8);
        faults("byte", 1, 4);
        faults("word 1,", 1, 7);
        faults("word ,1", 1, 5);
        faults("word 1 2", 1, 7);
    }

    private static void places() {
        NapMachine m = new NapMachine();
        String text = "byte 1\na:word 2\nbyte 3\nb:\nc: mov r4,r5\nd: org 0x300\ne: byte 4\nf:org -1\nbyte 9\ng:";
        Check.same("places", Check.assemble(m, text), 8);
        Check.same("no label", m.label(0), -1);
        Check.same("a word's place is even", m.label(1), 0xC002);
        Check.same("without a statement", m.label(3), 0xC005);
        Check.same("an instruction's place is even", m.label(4), 0xC006);
        Check.same("with org", m.label(5), 0x300);
        Check.same("behind org", m.label(6), 0x300);
        Check.same("org -1", m.label(7), 0xFFFF);
        Check.same("behind 0xffff", m.label(9), 0);
        Check.same("org's byte", m.peek(0x300), 4);
        Check.same("the last byte", m.peek(0xFFFF), 9);
        Check.same("nothing is between", m.peek(0xC001), 0);
        faults("org 0xffff\nbyte 1,2\nnop", 2, 19);
        faults("org 0xffff\nword 1 ; so\nnop", 2, 22);
        faults("org 0xfffe\nmov #5,r4", 2, 20);
        faults("org 0xfffe\nbyte 1,2,3,$", 1, 22);
        faults("a: org a", 1, 7);
        faults("org", 1, 3);
        Check.same("as much as there is", Check.assemble(m, "org 0xfffc\nmov #5,r4\n"), 4);
        Check.same("its last word", Check.word(m, 0xFFFE), 5);
    }

    private static void labels() {
        NapMachine m = new NapMachine();
        Check.same("labels", Check.assemble(m, "\naAZz0912:nop\n\nr16: nop ;x:\nb: ;b:\n"), 4);
        Check.same("line 0", m.label(0), -1);
        Check.same("line 1", m.label(1), 0xC000);
        Check.same("line 2", m.label(2), -1);
        Check.same("line 3", m.label(3), 0xC002);
        Check.same("line 4", m.label(4), 0xC004);
        Check.same("line 5", m.label(5), -1);
        Check.same("line -1", m.label(-1), -1);
        Check.same("a text with a fault", Check.assemble(m, "x:nop\ny:nop\nmov"), -16);
        Check.same("its labels don't count", m.label(0), -1);
        Check.same("the latest good ones do", m.label(3), 0xC002);
        Check.same("a text without labels", Check.assemble(m, "nop"), 2);
        Check.same("has none", m.label(3), -1);
        for (int k = 0; k < 4; k++) {
            Check.same("the same labels again", Check.assemble(m, "o: nop\np: jmp o"), 4);
        }
        Check.same("no label of an older text is told", Check.assemble(m, "jmp p"), -5);
        Check.same("its kind", m.fault(), 4);
        Check.same("none of an older one with a fault", Check.assemble(m, "x: nop\njmp p"), -12);
        Check.same("again", Check.assemble(m, "jmp x"), -5);
        makes("word 0xa,0xaf,0x9", 10, 0xAF, 9);
        makes("a: mov #b,r4\nb: jmp a", 0x4034, 0xC004, 0x3FFD);
        makes("mov a,r4\na: nop", 0x4014, 2, 0x4303);
        makes("mov a-0xc000(r4),&a+2\na:", 0x4492, 6, 0xC008);
    }

    private static void faults() {
        faults("mov", 1, 3);
        faults("mov r4", 1, 6);
        faults("mov r4,", 1, 7);
        faults("mov r4,#5", 1, 7);
        faults("mov r4,@r5", 1, 7);
        faults("mov r4,r5 r6", 1, 10);
        faults("mov r4 r5\n", 1, 7);
        faults("mov r4\n,r5", 1, 6);
        faults("mov r4 ; x\n", 1, 10);
        faults("\n\n$", 1, 2);
        faults("\tnop", 1, 0);
        faults("nop\r\n", 1, 3);
        faults("MOV r4,r5", 1, 0);
        faults("r4: nop", 1, 0);
        faults("pc: nop", 1, 0);
        faults("mov: nop", 1, 3);
        faults("5: nop", 1, 0);
        faults(": nop", 1, 0);
        faults("abcdefghi: nop", 1, 0);
        faults("jmp abcdefghi", 1, 4);
        faults("foo mov r4,r5", 1, 4);
        faults("a: b: nop", 1, 3);
        faults("mov 4(pc),r5", 1, 6);
        faults("mov 4(r2),r5", 1, 6);
        faults("mov 4(r3),r5", 1, 6);
        faults("mov 4(5),r5", 1, 6);
        faults("mov 4(r5,r5", 1, 8);
        faults("mov @r0,r5", 1, 5);
        faults("mov @sr,r5", 1, 5);
        faults("mov @r3+,r5", 1, 5);
        faults("mov @5,r5", 1, 5);
        faults("mov #r4,r5", 1, 5);
        faults("mov #,r5", 1, 5);
        faults("mov &r4,r5", 1, 5);
        faults("mov mov,r5", 1, 4);
        faults("mov +5,r5", 1, 4);
        faults("mov - -5,r5", 1, 6);
        faults("mov -a,r5\na:", 1, 5);
        faults("mov 5+5,r5", 1, 5);
        faults("a:mov a+,r5", 1, 8);
        faults("a:mov a+a,r5", 1, 8);
        faults("word 0x", 1, 5);
        faults("word 0x12345", 1, 5);
        faults("word 0xg", 1, 5);
        faults("word 123456", 1, 5);
        faults("word 12a", 1, 7);
        faults("word 0x1G", 1, 8);
        faults("word 0xF", 1, 5);
        faults("word 65536", 2, 5);
        faults("word 99999", 2, 5);
        faults("word 1, - 32769", 2, 8);
        faults("a: word a+65536", 2, 8);
        faults("mov #70000,r4", 2, 5);
        faults("mov 70000(r4),r4", 2, 4);
        faults("jmp 70000", 2, 4);
        faults("org 65536", 2, 4);
        faults("a:\n a:", 3, 4);
        faults("a:\na nop", 3, 3);
        faults("jmp x", 4, 4);
        faults("mov #5,y", 4, 7);
        faults("byte z+1", 4, 5);
    }

    private static void faultOrder() {
        faults("jmp x\nword 70000", 2, 11);
        faults("jmp 0\nfoo", 1, 9);
        faults("jmp 0\njmp x", 5, 4);
        faults("jmp x\njmp 0", 4, 4);
        faults("jmp x\na:\na:", 3, 9);
        faults("word x,y", 4, 5);
        faults("word 70000 $", 2, 5);
        faults("a:\nword 70000\na:", 2, 8);
        NapMachine m = new NapMachine();
        Check.same("a fault", Check.assemble(m, "nop\njmp x"), -9);
        Check.same("nothing comes", Check.word(m, 0xC000), 0);
        Check.same("its kind", m.fault(), 4);
        Check.same("no fault", Check.assemble(m, "nop"), 2);
        Check.same("no kind", m.fault(), 0);
    }

    private static void limits() {
        StringBuilder sixty = new StringBuilder();
        for (int k = 0; k < 60; k++) {
            sixty.append("a").append(k).append(":nop\n");
        }
        NapMachine m = new NapMachine();
        Check.same("sixty labels", Check.assemble(m, sixty.toString()), 120);
        Check.same("the sixtieth", m.label(59), 0xC000 + 118);
        faults(sixty + " b nop", 3, sixty.length() + 1);
        String full = "nop;" + "x".repeat(2496);
        Check.same("2500 bytes", Check.assemble(m, full), 2);
        Check.same("2501 bytes", Check.assemble(m, full + "x"), -2501);
        Check.same("its kind", m.fault(), 6);
        Check.same("the tape is empty then", m.count(5), 0);
        Check.same("2500 LINES", Check.assemble(m, "\n".repeat(2500)), 0);
        Check.same("2500 commas", Check.assemble(m, "word 1" + ",1".repeat(1247)), 2496);
        Check.same("the last", Check.word(m, 0xC000 + 2494), 1);
        Check.same("a fault at the end", Check.assemble(m, "nop" + " ".repeat(2496) + "$"), -2500);
    }

    private static void memoryAndTape() {
        NapMachine m = new NapMachine();
        Check.same("things", Check.assemble(m, "org 0x21\nbyte 5\norg 0x130\nword 300\norg 0x138\nword 300"), 5);
        Check.same("OUT", m.peek(0x21), 5);
        Check.same("the product", Check.word(m, 0x13A) | Check.word(m, 0x13C) << 16, 90000);
        Check.same("the tape is empty", m.count(5), 0);
        Check.same("no STEP, no TIME", m.count(0) + m.count(1), 0);
        Check.same("PC stays", m.register(0), 0);
        Check.same("a later byte wins", Check.assemble(m, "word 1\norg 0xc000\nbyte 7"), 3);
        Check.same("it", m.peek(0xC000), 7);
        Check.same("a fault empties the tape", Check.assemble(m, "$"), -1);
        Check.same("count(5)", m.count(5), 0);
    }
}
