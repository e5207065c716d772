/-! the names: the class's texts and the reference's table -/
/-- the numbers of the words of text i -/
def toks (i : Nat) : Nat → Int32 → Int32 → Option (List Int32)
  | 0, _, _ => none
  | n + 1, w3, w4 => if sl i ≤ w4 then some [w3] else if sc i w4 = 32 then (toks i n 0 (w4 + 1)).map (fun r => w3 :: r) else toks i n (((27 : Int32) * w3 + sc i w4) - 64) (w4 + 1)
/-- the first place of q in a list, counted from w -/
def srch (q : Int32) : Int32 → List Int32 → Int32
  | _, [] => -1
  | w, t :: r => if t = q then w else srch q (w + 1) r
theorem toks_srch (q : Int32) (i : Nat) : ∀ (n : Nat) (w2 w3 w4 : Int32) (l : List Int32), toks i n w3 w4 = some l → lf_X1_placeOf_7 q i n w2 w3 w4 = srch q w2 l
  | 0, _, _, _, _, h => by simp [toks] at h
  | n + 1, w2, w3, w4, l, h => by
    unfold toks at h
    unfold lf_X1_placeOf_7
    by_cases c1 : sl i ≤ w4
    · rw [if_pos c1] at h
      rw [if_pos c1]
      obtain rfl := Option.some.inj h
      rfl
    · rw [if_neg c1] at h
      rw [if_neg c1]
      dsimp only
      by_cases c2 : sc i w4 = 32
      · rw [if_pos c2] at h
        rw [if_pos c2]
        obtain ⟨r, hr, rfl⟩ := Option.map_eq_some_iff.mp h
        show _ = if w3 = q then w2 else srch q (w2 + 1) r
        rw [toks_srch q i n _ _ _ _ hr]
      · rw [if_neg c2] at h
        rw [if_neg c2]
        exact toks_srch q i n _ _ _ _ h
def tk_0 : List Int32 := [10627, 158537, 40187, 333, 8999, 243116, 243120]
def tk_1 : List Int32 := [391432, 406825, 206741, 378174, 378170, 10210733, 10210737]
def tk_2 : List Int32 := [406825]
def tk_3 : List Int32 := [378170, 10210733, 10210737, 378174, 187442, 5061077, 5061081, 187446, 11429, 308726, 308730, 11433, 810305, 21878378, 21878382, 810309]
def tk_4 : List Int32 := [7657, 206741, -19, -19, 141967, 3833111, 12251, 330786, -19, -19, -19, -19, -19, 391432, 5258]
def tk_5 : List Int32 := [8857, 6942, 324262, 7096672, 3054, 10815598, 350345, 70351, 14079, 380154, 14085, 380316, 267413, 4068, 1704, 46486, 321581, 212506]
def tk_6 : List Int32 := [22728, 22728, 841, 14420, 389361, 10056, 3181, 2554, 525, 14196, 531, 14358, 423, 17919, 30011, 374818, 10068, 204]
def tk_7 : List Int32 := [10056, 271533, 3181, 85908, 841, 22728, 14420, 389361, 2148492, 9057225, 7994343, 4274256]
def tk_8 : List Int32 := [2554, 68979, 10348, 279417, 525, 14196, 531, 14358]
def tk_9 : List Int32 := [68, 80, 70, 1867, 1850, 1862, 1852, 1615, 11732, 11744, 11734, 316795, 316778, 316790, 316780, 316543]
def tk_10 : List Int32 := [1802, 1610, 1667, -19, 1652, 1841, 1787, -19, 316730, 316538, 316595, -19, 316580, 316769, 316715, -19]
def tk_11 : List Int32 := [2714, 2726, 2716, 73309, 73292, 73304, 73294, 73057, 19481, 19493, 19483, 526018, 526001, 526013, 526003, 525766]
def tk_12 : List Int32 := [73244, 73052, 73109, -19, 73094, 73283, 73229, -19, 525953, 525761, 525818, -19, 525803, 525992, 525938, -19]
def tk_13 : List Int32 := [8858, 239187, 8879, 239754, 8876, 239673, 8871, 239538, -19, 239348, -19, -19, -19, -19, -19, 204]
def tk_14 : List Int32 := [326, 8823, 347, 9390, 344, 9309, 339, 9174]
def tk_15 : List Int32 := [14393, 388632, 14414, 389199, 14411, 389118, 14406, 388983, -19, 388793, 388653]
def tk_16 : List Int32 := [515, -19, 536, -19, 533, -19, 528]
def tk_17 : List Int32 := [423, 11435, 10629, 17919, 1111, 30011, 276673, 293481, 42531, 455874, 396825, 298410, 10068, 374818, 9900, 273798]
def tkL : List (List Int32) := [tk_0, tk_1, tk_2, tk_3, tk_4, tk_5, tk_6, tk_7, tk_8, tk_9, tk_10, tk_11, tk_12, tk_13, tk_14, tk_15, tk_16, tk_17]
theorem tk_ok : ∀ i : Nat, i < 18 → toks i (sLen.getD i 0 + 1) 0 0 = some (tkL.getD i []) := by decide +kernel
/-- what the class answers, by lists -/
def cPl (q : Int32) (i : Nat) : Int32 := srch q 0 (tkL.getD i [])
theorem cPl_eq (q : Int32) (i : Nat) (hi : i < 18) : f_X1_placeOf q i = cPl q i := by
  rw [fe_X1_placeOf]
  exact toks_srch q i _ _ _ _ _ (tk_ok i hi)
def cMb (p : Int32) (i j : Nat) : Int32 := if 0 ≤ cPl p i then f0_X1_nameAt (cPl p i) j else p
theorem cMb_eq (p : Int32) (i j : Nat) (hi : i < 18) : f_X1_meantBy p i j = cMb p i j := by
  rw [fe_X1_meantBy]
  unfold f0_X1_meantBy cMb
  dsimp only
  rw [cPl_eq p i hi, fe_X1_nameAt]
def cRow (i : Nat) (a b p : Int32) : Int32 := if 0 ≤ cPl p i then a + b * cPl p i else -1
theorem cRow_eq (i : Nat) (a b p : Int32) (hi : i < 18) : f_X1_opInRow i a b p = cRow i a b p := by
  rw [fe_X1_opInRow]
  unfold f0_X1_opInRow cRow
  dsimp only
  rw [cPl_eq p i hi]
def cPk (v w : Int32) : Int32 := if v < 0 then w else v
def cSin (p : Int32) : Int32 := let q := cMb p 0 1; cPk (cPk (cRow 2 0 1 q) (cRow 3 224 1 q)) (cRow 4 240 1 q)
theorem cSin_eq (p : Int32) : f_X1_singleNamed p = cSin p := by
  rw [fe_X1_singleNamed]
  unfold f0_X1_singleNamed cSin cPk
  dsimp only
  rw [cMb_eq _ _ _ (by decide), cRow_eq _ _ _ _ (by decide), cRow_eq _ _ _ _ (by decide), cRow_eq _ _ _ _ (by decide), pick_eq]
def cEve (p : Int32) : Int32 := let q := cMb p 5 6; cPk (cPk (cPk (cPk (cPk (cPk (cPk (cPk (cPk (cPk (cRow 7 24 2 q) (cRow 8 48 2 q)) (cRow 9 64 2 q)) (cRow 10 64 2 q)) (cRow 11 96 2 q)) (cRow 12 96 2 q)) (cRow 13 128 2 q)) (cRow 14 128 2 q)) (cRow 15 160 2 q)) (cRow 16 160 2 q)) (cRow 17 192 2 q)
theorem cEve_eq (p : Int32) : f_X1_evenNamed p = cEve p := by
  rw [fe_X1_evenNamed]
  unfold f0_X1_evenNamed cEve cPk
  dsimp only
  rw [cMb_eq _ _ _ (by decide), cRow_eq _ _ _ _ (by decide), cRow_eq _ _ _ _ (by decide), cRow_eq _ _ _ _ (by decide), cRow_eq _ _ _ _ (by decide), cRow_eq _ _ _ _ (by decide), cRow_eq _ _ _ _ (by decide), cRow_eq _ _ _ _ (by decide), cRow_eq _ _ _ _ (by decide), cRow_eq _ _ _ _ (by decide), cRow_eq _ _ _ _ (by decide), cRow_eq _ _ _ _ (by decide)]
  simp only [pick_eq]
def cOdd (p : Int32) : Int32 := if cEve (p / 27) < 0 then -1 else if p - p / 27 * 27 = (if (if cEve (p / 27) < 64 then (0 : Int32) else if 96 ≤ cEve (p / 27) then 0 else 1) = 0 then 9 else 2) then cEve (p / 27) + 1 else -1
theorem cOdd_eq (p : Int32) : f_X1_oddNamed p = cOdd p := by
  rw [fe_X1_oddNamed]
  unfold f0_X1_oddNamed cOdd
  dsimp only
  rw [cEve_eq]
def cOp (p : Int32) : Int32 := if 0 < p then (let z := if 0 ≤ cSin p then cSin p else cEve p; if 0 ≤ z then z else cOdd p) else -1
theorem cOp_eq (p : Int32) : f_X1_opNamed p = cOp p := by
  rw [fe_X1_opNamed]
  unfold f0_X1_opNamed cOp
  dsimp only
  rw [cSin_eq, cEve_eq, cOdd_eq]
/-- every word's number that is above 0, and what an odd name makes of it -/
def U1 : List Int32 := [68, 70, 80, 204, 326, 333, 339, 344, 347, 423, 515, 525, 528, 531, 533, 536, 841, 1111, 1610, 1615, 1652, 1667, 1704, 1787, 1802, 1841, 1850, 1852, 1862, 1867, 2554, 2714, 2716, 2726, 3054, 3181, 4068, 5258, 6942, 7657, 8823, 8857, 8858, 8871, 8876, 8879, 8999, 9174, 9309, 9390, 9900, 10056, 10068, 10348, 10627, 10629, 11429, 11433, 11435, 11732, 11734, 11744, 12251, 14079, 14085, 14196, 14358, 14393, 14406, 14411, 14414, 14420, 17919, 19481, 19483, 19493, 22728, 30011, 40187, 42531, 46486, 68979, 70351, 73052, 73057, 73094, 73109, 73229, 73244, 73283, 73292, 73294, 73304, 73309, 85908, 141967, 158537, 187442, 187446, 206741, 212506, 239187, 239348, 239538, 239673, 239754, 243116, 243120, 267413, 271533, 273798, 276673, 279417, 293481, 298410, 308726, 308730, 316538, 316543, 316580, 316595, 316715, 316730, 316769, 316778, 316780, 316790, 316795, 321581, 324262, 330786, 350345, 374818, 378170, 378174, 380154, 380316, 388632, 388653, 388793, 388983, 389118, 389199, 389361, 391432, 396825, 406825, 455874, 525761, 525766, 525803, 525818, 525938, 525953, 525992, 526001, 526003, 526013, 526018, 810305, 810309, 2148492, 3833111, 4274256, 5061077, 5061081, 7096672, 7994343, 9057225, 10210733, 10210737, 10815598, 21878378, 21878382]
def U2 : List Int32 := U1.map (fun q => 27 * q + 9) ++ U1.map (fun q => 27 * q + 2)
theorem tk_U1 : ∀ i : Nat, i < 18 → ∀ t ∈ tkL.getD i [], t ≤ 0 ∨ t ∈ U1 := by decide +kernel
theorem srch_no (q : Int32) : ∀ (l : List Int32) (w : Int32), q ∉ l → srch q w l = -1
  | [], _, _ => rfl
  | t :: r, w, h => by
    unfold srch
    rw [if_neg (fun e => h (by rw [e]; exact List.mem_cons_self))]
    exact srch_no q r _ (fun m => h (List.mem_cons_of_mem _ m))
theorem cPl_no {q : Int32} (h0 : 0 < q) (h : q ∉ U1) (i : Nat) (hi : i < 18) : cPl q i = -1 :=
  srch_no q _ _ (fun m => (tk_U1 i hi q m).elim (fun h1 => absurd h0 (Int32.not_lt.mpr h1)) h)
theorem cMb_no {q : Int32} (h0 : 0 < q) (h : q ∉ U1) (i j : Nat) (hi : i < 18) : cMb q i j = q := by
  unfold cMb
  rw [cPl_no h0 h i hi, if_neg (by decide)]
theorem cRow_no {q : Int32} (h0 : 0 < q) (h : q ∉ U1) (i : Nat) (a b : Int32) (hi : i < 18) : cRow i a b q = -1 := by
  unfold cRow
  rw [cPl_no h0 h i hi, if_neg (by decide)]
theorem cPk_no : cPk (-1) (-1) = -1 := by decide
theorem cSin_no {q : Int32} (h0 : 0 < q) (h : q ∉ U1) : cSin q = -1 := by
  unfold cSin
  dsimp only
  rw [cMb_no h0 h 0 1 (by decide), cRow_no h0 h _ _ _ (by decide), cRow_no h0 h _ _ _ (by decide), cRow_no h0 h _ _ _ (by decide)]
  decide
theorem cEve_no {q : Int32} (h0 : 0 < q) (h : q ∉ U1) : cEve q = -1 := by
  unfold cEve
  dsimp only
  rw [cMb_no h0 h 5 6 (by decide), cRow_no h0 h _ _ _ (by decide), cRow_no h0 h _ _ _ (by decide), cRow_no h0 h _ _ _ (by decide), cRow_no h0 h _ _ _ (by decide), cRow_no h0 h _ _ _ (by decide), cRow_no h0 h _ _ _ (by decide), cRow_no h0 h _ _ _ (by decide), cRow_no h0 h _ _ _ (by decide), cRow_no h0 h _ _ _ (by decide), cRow_no h0 h _ _ _ (by decide), cRow_no h0 h _ _ _ (by decide)]
  decide +kernel
def nmL : List Int32 := [10056, 271521, 271533, 7331400, 3181, 85896, 85908, 2319525, 841, 22716, 22728, 613665, 14420, 389349, 389361, 10512756, 2148492, 58009293, 9057225, 244545084, 7994343, 215847270, 4274256, 115404921, 2554, 68967, 68979, 1862442, 10348, 279405, 279417, 7544268, 525, 14184, 14196, 383301, 531, 14346, 14358, 387675, 68, 1838, 80, 2162, 70, 1892, 1867, 50411, 1850, 49952, 1862, 50276, 1852, 50006, 1615, 43607, 1802, 48656, 1610, 43472, 1667, 45011, 1652, 44606, 1841, 49709, 1787, 48251, 11732, 316766, 11744, 317090, 11734, 316820, 316795, 8553467, 316778, 8553008, 316790, 8553332, 316780, 8553062, 316543, 8546663, 316730, 8551712, 316538, 8546528, 316595, 8548067, 316580, 8547662, 316769, 8552765, 316715, 8551307, 2714, 73287, 2726, 73611, 2716, 73341, 73309, 1979352, 73292, 1978893, 73304, 1979217, 73294, 1978947, 73057, 1972548, 73244, 1977597, 73052, 1972413, 73109, 1973952, 73094, 1973547, 73283, 1978650, 73229, 1977192, 19481, 525996, 19493, 526320, 19483, 526050, 526018, 14202495, 526001, 14202036, 526013, 14202360, 526003, 14202090, 525766, 14195691, 525953, 14200740, 525761, 14195556, 525818, 14197095, 525803, 14196690, 525992, 14201793, 525938, 14200335, 8858, 239175, 239187, 6458058, 8879, 239742, 239754, 6473367, 8876, 239661, 239673, 6471180, 8871, 239526, 239538, 6467535, 326, 8811, 8823, 238230, 347, 9378, 9390, 253539, 344, 9297, 9309, 251352, 339, 9162, 9174, 247707, 239348, 6462405, 204, 5517, 212506, 5737671, 14393, 388620, 388632, 10493073, 14414, 389187, 389199, 10508382, 14411, 389106, 389118, 10506195, 14406, 388971, 388983, 10502550, 515, 13914, 536, 14481, 533, 14400, 528, 14265, 388793, 10497420, 388653, 10493640, 423, 11430, 11435, 308754, 10629, 286992, 17919, 483822, 1111, 30006, 30011, 810306, 276673, 7470180, 293481, 7923996, 42531, 1148346, 455874, 12308607, 396825, 10714284, 298410, 8057079, 10068, 271845, 374818, 10120095, 9900, 267309, 273798, 7392555, 378170, 10210733, 10210737, 378174, 187442, 5061077, 5061081, 187446, 11429, 308726, 308730, 11433, 810305, 21878378, 21878382, 810309, 7657, 206741, 40187, 141967, 3833111, 12251, 330786, 5258, 391432, 10627, 406825, 158537, 333, 8999, 243116, 243120, 8857, 239148, 6942, 187443, 324262, 8755083, 7096672, 191610153, 3054, 82467, 10815598, 292021155, 350345, 9459324, 70351, 1899486, 14079, 380142, 380154, 10264167, 14085, 380304, 380316, 10268541, 267413, 7220160, 4068, 109845, 1704, 46017, 46486, 1255131, 321581, 8682696]
def cdL : List Int32 := [24, 25, 26, 27, 28, 29, 30, 31, 32, 33, 34, 35, 36, 37, 38, 39, 40, 41, 42, 43, 44, 45, 46, 47, 48, 49, 50, 51, 52, 53, 54, 55, 56, 57, 58, 59, 60, 61, 62, 63, 64, 65, 66, 67, 68, 69, 70, 71, 72, 73, 74, 75, 76, 77, 78, 79, 64, 65, 66, 67, 68, 69, 72, 73, 74, 75, 76, 77, 80, 81, 82, 83, 84, 85, 86, 87, 88, 89, 90, 91, 92, 93, 94, 95, 80, 81, 82, 83, 84, 85, 88, 89, 90, 91, 92, 93, 96, 97, 98, 99, 100, 101, 102, 103, 104, 105, 106, 107, 108, 109, 110, 111, 96, 97, 98, 99, 100, 101, 104, 105, 106, 107, 108, 109, 112, 113, 114, 115, 116, 117, 118, 119, 120, 121, 122, 123, 124, 125, 126, 127, 112, 113, 114, 115, 116, 117, 120, 121, 122, 123, 124, 125, 128, 129, 130, 131, 132, 133, 134, 135, 136, 137, 138, 139, 140, 141, 142, 143, 128, 129, 130, 131, 132, 133, 134, 135, 136, 137, 138, 139, 140, 141, 142, 143, 146, 147, 158, 159, 158, 159, 160, 161, 162, 163, 164, 165, 166, 167, 168, 169, 170, 171, 172, 173, 174, 175, 160, 161, 164, 165, 168, 169, 172, 173, 178, 179, 180, 181, 192, 193, 194, 195, 196, 197, 198, 199, 200, 201, 202, 203, 204, 205, 206, 207, 208, 209, 210, 211, 212, 213, 214, 215, 216, 217, 218, 219, 220, 221, 222, 223, 224, 225, 226, 227, 228, 229, 230, 231, 232, 233, 234, 235, 236, 237, 238, 239, 240, 241, 241, 244, 245, 246, 247, 254, 253, 253, 0, 0, 227, 224, 225, 226, 34, 35, 34, 35, 32, 33, 36, 37, 38, 39, 24, 25, 28, 29, 48, 49, 56, 57, 58, 59, 60, 61, 62, 63, 192, 193, 198, 199, 202, 203, 218, 219, 216, 217]
theorem ct_uM1 : m_ct uM1 = nI 316 := by decide +kernel
theorem nm_ok : (List.range 316).map (m_nm uM1) = nmL := by decide +kernel
theorem cd_ok : (List.range 316).map (m_cd uM1) = cdL := by decide +kernel
/-- the code of q by the table, or none -/
def tsr (q : Int32) : List Int32 → List Int32 → Option Int32
  | t :: r, c :: d => if t = q then some c else tsr q r d
  | _, _ => none
theorem tsr_no (q : Int32) : ∀ (l d : List Int32), q ∉ l → tsr q l d = none
  | [], _, _ => by unfold tsr; rfl
  | t :: r, [], _ => by unfold tsr; rfl
  | t :: r, c :: d, h => by
    unfold tsr
    rw [if_neg (fun e => h (by rw [e]; exact List.mem_cons_self))]
    exact tsr_no q r d (fun m => h (List.mem_cons_of_mem _ m))
def chkP (p : Int32) : Bool := match tsr p nmL cdL with
  | some c => decide (cOp p = c ∧ 0 ≤ c ∧ c < 256)
  | none => decide (¬ 0 ≤ cOp p)
theorem chk_U1 : U1.all chkP = true := by decide +kernel
theorem chk_U2 : U2.all chkP = true := by decide +kernel
