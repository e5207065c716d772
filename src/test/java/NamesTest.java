import java.util.HashMap;
import java.util.Map;

/** Every name of the assembler with its OP in hexadecimal, and numbers that are no name's. */
public final class NamesTest {
    private static final String[] NAMES = {
        "MUL 18 MULI 19 MULU 1A MULUI 1B DIV 1C DIVI 1D DIVU 1E DIVUI 1F",
        "ADD 20 ADDI 21 ADDU 22 ADDUI 23 SUB 24 SUBI 25 SUBU 26 SUBUI 27",
        "DADDU 28 DADDUI 29 QADDU 2A QADDUI 2B OADDU 2C OADDUI 2D HADDU 2E HADDUI 2F",
        "CMP 30 CMPI 31 CMPU 32 CMPUI 33 NEG 34 NEGI 35 NEGU 36 NEGUI 37",
        "SL 38 SLI 39 SLU 3A SLUI 3B SR 3C SRI 3D SRU 3E SRUI 3F",
        "BN 40 BNB 41 BZ 42 BZB 43 BP 44 BPB 45 BOD 46 BODB 47",
        "BNN 48 BNNB 49 BNZ 4A BNZB 4B BNP 4C BNPB 4D BEV 4E BEVB 4F",
        "BLT 40 BLTB 41 BEQ 42 BEQB 43 BGT 44 BGTB 45",
        "BGE 48 BGEB 49 BNE 4A BNEB 4B BLE 4C BLEB 4D",
        "PBN 50 PBNB 51 PBZ 52 PBZB 53 PBP 54 PBPB 55 PBOD 56 PBODB 57",
        "PBNN 58 PBNNB 59 PBNZ 5A PBNZB 5B PBNP 5C PBNPB 5D PBEV 5E PBEVB 5F",
        "PBLT 50 PBLTB 51 PBEQ 52 PBEQB 53 PBGT 54 PBGTB 55",
        "PBGE 58 PBGEB 59 PBNE 5A PBNEB 5B PBLE 5C PBLEB 5D",
        "CSN 60 CSNI 61 CSZ 62 CSZI 63 CSP 64 CSPI 65 CSOD 66 CSODI 67",
        "CSNN 68 CSNNI 69 CSNZ 6A CSNZI 6B CSNP 6C CSNPI 6D CSEV 6E CSEVI 6F",
        "CSLT 60 CSLTI 61 CSEQ 62 CSEQI 63 CSGT 64 CSGTI 65",
        "CSGE 68 CSGEI 69 CSNE 6A CSNEI 6B CSLE 6C CSLEI 6D",
        "ZSN 70 ZSNI 71 ZSZ 72 ZSZI 73 ZSP 74 ZSPI 75 ZSOD 76 ZSODI 77",
        "ZSNN 78 ZSNNI 79 ZSNZ 7A ZSNZI 7B ZSNP 7C ZSNPI 7D ZSEV 7E ZSEVI 7F",
        "ZSLT 70 ZSLTI 71 ZSEQ 72 ZSEQI 73 ZSGT 74 ZSGTI 75",
        "ZSGE 78 ZSGEI 79 ZSNE 7A ZSNEI 7B ZSLE 7C ZSLEI 7D",
        "LDB 80 LDBI 81 LDBU 82 LDBUI 83 LDW 84 LDWI 85 LDWU 86 LDWUI 87",
        "LDT 88 LDTI 89 LDTU 8A LDTUI 8B LDO 8C LDOI 8D LDOU 8E LDOUI 8F",
        "LB 80 LBI 81 LBU 82 LBUI 83 LW 84 LWI 85 LWU 86 LWUI 87",
        "LT 88 LTI 89 LTU 8A LTUI 8B LO 8C LOI 8D LOU 8E LOUI 8F",
        "LDHT 92 LDHTI 93 GO 9E GOI 9F",
        "STB A0 STBI A1 STBU A2 STBUI A3 STW A4 STWI A5 STWU A6 STWUI A7",
        "STT A8 STTI A9 STTU AA STTUI AB STO AC STOI AD STOU AE STOUI AF",
        "SB A0 SBI A1 SW A4 SWI A5 ST A8 STI A9 SO AC SOI AD",
        "STHT B2 STHTI B3 STCO B4 STCOI B5",
        "OR C0 ORI C1 ORN C2 ORNI C3 NOR C4 NORI C5 XOR C6 XORI C7",
        "AND C8 ANDI C9 ANDN CA ANDNI CB NAND CC NANDI CD NXOR CE NXORI CF",
        "BDIF D0 BDIFI D1 WDIF D2 WDIFI D3 TDIF D4 TDIFI D5 ODIF D6 ODIFI D7",
        "MUX D8 MUXI D9 SADD DA SADDI DB MOR DC MORI DD MXOR DE MXORI DF",
        "SETH E0 SETMH E1 SETML E2 SETL E3 INCH E4 INCMH E5 INCML E6 INCL E7",
        "ORH E8 ORMH E9 ORML EA ORL EB ANDNH EC ANDNMH ED ANDNML EE ANDNL EF",
        "JMP F0 JMPB F1 GETA F4 GETAB F5 PUT F6 PUTI F7 SWYM FD GET FE TRAP 00",
        "NOP FD HALT 00 BACK F1 LI E3 LIH E0 LIMH E1 LIML E2",
        "LDA 22 LDAI 23 INC 22 INCI 23 PLUS 20 PLUSI 21 MINUS 24 MINUSI 25 DEC 26 DECI 27",
        "TIMES 18 TIMESI 19 QUOT 1C QUOTI 1D COMP 30 COMPI 31",
        "SHL 38 SHLI 39 SHLU 3A SHLUI 3B SHR 3C SHRI 3D SHRU 3E SHRUI 3F",
        "MOVE C0 MOVEI C1 EOR C6 EORI C7 BIC CA BICI CB BITS DA BITSI DB",
        "PICK D8 PICKI D9 JUMP 9E JUMPI 9F"
    };

    private static final String[] NO_NAMES = {
        "GETI", "SWYMI", "TRAPI", "TRAPB", "JMPI", "GETAI", "SETHI", "SETLI", "LII", "LIHI", "NOPI",
        "HALTI", "BACKB", "BNI", "PBNI", "CSNB", "ZSNB", "ADDB", "LHT", "LHTI", "SBU", "SWU", "STU",
        "SOU", "SCO", "SHT", "LDSF", "STSF", "FADD", "BLTI", "INCB", "BLTBB", "MULII", "A",
        "Z", "I", "B", "ZZZZZZ", "AAAAAA", "CSWAP", "PUSHJ", "POP", "SAVE", "SYNC", "SET", "LDUNC",
        "LDBII", "PUTB", "GOB", "LIL", "ORHI", "ANDNLI", "COMPU", "PLUSU", "TIMESU"
    };

    private static final Map<Integer, Integer> OPS = new HashMap<>();
    private static MixBench bench = new MixBench();
    private static int asked = 0;

    private static void readNames() {
        for (String row : NAMES) {
            String[] words = row.split(" ");
            for (int i = 0; i < words.length; i += 2) {
                Integer old = OPS.put(Check.number(words[i]), Integer.parseInt(words[i + 1], 16));
                Check.due(words[i] + " stands twice", old == null ? 0 : 1, 0);
            }
        }
        Check.due("names", OPS.size(), 316);
    }

    /** No object is used for more calls than the document promises. */
    private static int answer(int name) {
        if (asked % 250 == 0) {
            bench = new MixBench();
        }
        asked++;
        MixBench m = bench;
        int thrown = Check.thrownBy(() -> m.put(name, 1, 2, 3));
        int a = (int) m.count(4) - 4;
        return thrown == Check.NOTHING ? (int) (m.peek(a) >>> (a % 8 == 0 ? 56 : 24)) & 255 : -thrown;
    }

    private static void ask(int name) {
        Integer op = OPS.get(name);
        Check.due("put of the name " + name, answer(name), op == null ? -Check.NO_SUCH_ELEMENT : op);
    }

    private static void everyName() {
        for (Map.Entry<Integer, Integer> entry : OPS.entrySet()) {
            MixBench m = new MixBench();
            Check.due("the OP of " + entry.getKey(), m.put(entry.getKey(), 0, 0, 0), entry.getValue());
            ask(entry.getKey());
        }
    }

    private static void nearEveryName() {
        for (int name : OPS.keySet()) {
            for (int power = 1; power < 387420489 && power > 0; power *= 27) {
                for (int digit = 0; digit < 27; digit++) {
                    ask(name - name / power % 27 * power + digit * power);
                }
            }
            for (int digit = 0; digit < 27; digit++) {
                ask(27 * name + digit);
            }
            ask(name / 27);
            ask(-name);
        }
    }

    private static void noNames() {
        for (String name : NO_NAMES) {
            Check.due("put of " + name, answer(Check.number(name)), -Check.NO_SUCH_ELEMENT);
        }
        for (int name = -30; name < 27 * 27 * 27; name++) {
            ask(name);
        }
        for (int name : new int[] {387420488, 387420489, Integer.MAX_VALUE, Integer.MIN_VALUE}) {
            ask(name);
        }
    }

    public static void main(String[] args) {
        readNames();
        everyName();
        nearEveryName();
        noNames();
        Check.end("NamesTest");
    }
}
