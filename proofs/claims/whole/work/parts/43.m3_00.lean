def f_X4_access (u : MS) (p0 : Int32) (p1 : Int32) (p2 : Int32) (p3 : Int32) : Int32 × MS :=
  let v1 : Int32 := p0 &&& (254 : Int32);
  let z4 : Int32 := (if v1 < (144 : Int32) then (1 : Int32) else if v1 = (146 : Int32) then (1 : Int32) else (0 : Int32));
  let v3 : Int32 := z4;
  let z9 : Int32 := (if v1 < (160 : Int32) then if v1 = (178 : Int32) then (1 : Int32) else if v1 = (180 : Int32) then (1 : Int32) else (0 : Int32) else if v1 ≤ (174 : Int32) then (1 : Int32) else if v1 = (178 : Int32) then (1 : Int32) else if v1 = (180 : Int32) then (1 : Int32) else (0 : Int32));
  let v8 : Int32 := z9;
  if v3 = (0 : Int32) then
    if v8 = (0 : Int32) then
      if v1 = (158 : Int32) then
        let v111 : Int64 := f_X4_number u p0 p3;
        let v112 : Int64 := (m_g u p2.toNatClampNeg) + v111;
        if v1 = (158 : Int32) then
          let v153 : Int64 := m_pc u;
          let v154 : Int32 := (f_X4_done u p1 (v153 + (4 : Int64))).1;
          let u155 : MS := (f_X4_done u p1 (v153 + (4 : Int64))).2;
          let u156 : MS := sm_pc u155 (v112 &&& (-4 : Int64));
          ((0 : Int32), u156)
        else
          if (f_X4_beyond v112) = (0 : Int32) then
            let u115 : MS := sm_me u ((m_me u) + (1 : Int64));
            let z118 : Int32 := (if v1 = (146 : Int32) then (4 : Int32) else if v1 = (178 : Int32) then (4 : Int32) else if v1 = (180 : Int32) then (8 : Int32) else jshl (1 : Int32) ((jshr v1 (2 : Int32)) &&& (3 : Int32)));
            let v117 : Int32 := z118;
            if v1 = (146 : Int32) then
              let v150 : Int64 := f_X4_m u115 v112 (4 : Int32);
              let v151 : Int32 := (f_X4_done u115 p1 (jlshl v150 (32 : Int32))).1;
              let u152 : MS := (f_X4_done u115 p1 (jlshl v150 (32 : Int32))).2;
              (v151, u152)
            else
              if v3 = (0 : Int32) then
                let z126 : Int64 := (if v1 = (178 : Int32) then jlushr (m_g u115 p1.toNatClampNeg) (32 : Int32) else if v1 = (180 : Int32) then p1.toInt64 else m_g u115 p1.toNatClampNeg);
                let v125 : Int64 := z126;
                let z131 : MS := (if (176 : Int32) ≤ v1 then u115 else if (v1 &&& (2 : Int32)) = (0 : Int32) then let z136 : Int32 := (if (f_X4_signed v125 v117) = v125 then (0 : Int32) else (1 : Int32)); let v135 : Int32 := z136; let u138 : MS := f_X4_over u115 v135; u138 else u115);
                let u130 : MS := z131;
                let u139 : MS := f_X4_m_ u130 v112 v117 v125;
                let v140 : Int32 := (f_X4_on u139 ).1;
                let u141 : MS := (f_X4_on u139 ).2;
                (v140, u141)
              else
                let z144 : Int64 := (if (v1 &&& (2 : Int32)) = (0 : Int32) then let v147 : Int64 := f_X4_m u115 v112 v117; f_X4_signed v147 v117 else let v146 : Int64 := f_X4_m u115 v112 v117; v146);
                let v143 : Int64 := z144;
                let v148 : Int32 := (f_X4_done u115 p1 v143).1;
                let u149 : MS := (f_X4_done u115 p1 v143).2;
                (v148, u149)
          else
            ((3 : Int32), u)
      else
        ((2 : Int32), u)
    else
      let v64 : Int64 := f_X4_number u p0 p3;
      let v65 : Int64 := (m_g u p2.toNatClampNeg) + v64;
      if v1 = (158 : Int32) then
        let v106 : Int64 := m_pc u;
        let v107 : Int32 := (f_X4_done u p1 (v106 + (4 : Int64))).1;
        let u108 : MS := (f_X4_done u p1 (v106 + (4 : Int64))).2;
        let u109 : MS := sm_pc u108 (v65 &&& (-4 : Int64));
        ((0 : Int32), u109)
      else
        if (f_X4_beyond v65) = (0 : Int32) then
          let u68 : MS := sm_me u ((m_me u) + (1 : Int64));
          let z71 : Int32 := (if v1 = (146 : Int32) then (4 : Int32) else if v1 = (178 : Int32) then (4 : Int32) else if v1 = (180 : Int32) then (8 : Int32) else jshl (1 : Int32) ((jshr v1 (2 : Int32)) &&& (3 : Int32)));
          let v70 : Int32 := z71;
          if v1 = (146 : Int32) then
            let v103 : Int64 := f_X4_m u68 v65 (4 : Int32);
            let v104 : Int32 := (f_X4_done u68 p1 (jlshl v103 (32 : Int32))).1;
            let u105 : MS := (f_X4_done u68 p1 (jlshl v103 (32 : Int32))).2;
            (v104, u105)
          else
            if v3 = (0 : Int32) then
              let z79 : Int64 := (if v1 = (178 : Int32) then jlushr (m_g u68 p1.toNatClampNeg) (32 : Int32) else if v1 = (180 : Int32) then p1.toInt64 else m_g u68 p1.toNatClampNeg);
              let v78 : Int64 := z79;
              let z84 : MS := (if (176 : Int32) ≤ v1 then u68 else if (v1 &&& (2 : Int32)) = (0 : Int32) then let z89 : Int32 := (if (f_X4_signed v78 v70) = v78 then (0 : Int32) else (1 : Int32)); let v88 : Int32 := z89; let u91 : MS := f_X4_over u68 v88; u91 else u68);
              let u83 : MS := z84;
              let u92 : MS := f_X4_m_ u83 v65 v70 v78;
              let v93 : Int32 := (f_X4_on u92 ).1;
              let u94 : MS := (f_X4_on u92 ).2;
              (v93, u94)
            else
              let z97 : Int64 := (if (v1 &&& (2 : Int32)) = (0 : Int32) then let v100 : Int64 := f_X4_m u68 v65 v70; f_X4_signed v100 v70 else let v99 : Int64 := f_X4_m u68 v65 v70; v99);
              let v96 : Int64 := z97;
              let v101 : Int32 := (f_X4_done u68 p1 v96).1;
              let u102 : MS := (f_X4_done u68 p1 v96).2;
              (v101, u102)
        else
          ((3 : Int32), u)
  else
    let v17 : Int64 := f_X4_number u p0 p3;
    let v18 : Int64 := (m_g u p2.toNatClampNeg) + v17;
    if v1 = (158 : Int32) then
      let v59 : Int64 := m_pc u;
      let v60 : Int32 := (f_X4_done u p1 (v59 + (4 : Int64))).1;
      let u61 : MS := (f_X4_done u p1 (v59 + (4 : Int64))).2;
      let u62 : MS := sm_pc u61 (v18 &&& (-4 : Int64));
      ((0 : Int32), u62)
    else
      if (f_X4_beyond v18) = (0 : Int32) then
        let u21 : MS := sm_me u ((m_me u) + (1 : Int64));
        let z24 : Int32 := (if v1 = (146 : Int32) then (4 : Int32) else if v1 = (178 : Int32) then (4 : Int32) else if v1 = (180 : Int32) then (8 : Int32) else jshl (1 : Int32) ((jshr v1 (2 : Int32)) &&& (3 : Int32)));
        let v23 : Int32 := z24;
        if v1 = (146 : Int32) then
          let v56 : Int64 := f_X4_m u21 v18 (4 : Int32);
          let v57 : Int32 := (f_X4_done u21 p1 (jlshl v56 (32 : Int32))).1;
          let u58 : MS := (f_X4_done u21 p1 (jlshl v56 (32 : Int32))).2;
          (v57, u58)
        else
          if v3 = (0 : Int32) then
            let z32 : Int64 := (if v1 = (178 : Int32) then jlushr (m_g u21 p1.toNatClampNeg) (32 : Int32) else if v1 = (180 : Int32) then p1.toInt64 else m_g u21 p1.toNatClampNeg);
            let v31 : Int64 := z32;
            let z37 : MS := (if (176 : Int32) ≤ v1 then u21 else if (v1 &&& (2 : Int32)) = (0 : Int32) then let z42 : Int32 := (if (f_X4_signed v31 v23) = v31 then (0 : Int32) else (1 : Int32)); let v41 : Int32 := z42; let u44 : MS := f_X4_over u21 v41; u44 else u21);
            let u36 : MS := z37;
            let u45 : MS := f_X4_m_ u36 v18 v23 v31;
            let v46 : Int32 := (f_X4_on u45 ).1;
            let u47 : MS := (f_X4_on u45 ).2;
            (v46, u47)
          else
            let z50 : Int64 := (if (v1 &&& (2 : Int32)) = (0 : Int32) then let v53 : Int64 := f_X4_m u21 v18 v23; f_X4_signed v53 v23 else let v52 : Int64 := f_X4_m u21 v18 v23; v52);
            let v49 : Int64 := z50;
            let v54 : Int32 := (f_X4_done u21 p1 v49).1;
            let u55 : MS := (f_X4_done u21 p1 v49).2;
            (v54, u55)
      else
        ((3 : Int32), u)
abbrev rm_X4_access : Room := { frames := 2, cells := 0, slots := 0, locals := 43 }
set_option maxRecDepth 20000 in
theorem iw_X4_access_X4 : ∀ w ∈ wsX40, w ∈ wsX4_access := by decide +kernel
set_option maxHeartbeats 4000000 in
set_option maxRecDepth 100000 in
theorem c_X4_access (l : Launch) (yy : Nat → ClassId) (a : Nat → Nat) (u : MS) (p0 : Int32) (p1 : Int32) (p2 : Int32) (p3 : Int32) (h0 : vp_in p1 256) (h1 : vp_in p2 256) (h2 : vp_in p3 256) : gMi l yX4_access wsX4_access rm_X4_access eTrue (sT yy) (wM yy a) [.ref (a 0), .int p0, .int p1, .int p2, .int p3] u (f_X4_access u p0 p1 p2 p3) := by
  refine gm_ofW (Qc := gQi (wM yy a) (f_X4_access u p0 p1 p2 p3)) (by decide) rfl (Nat.le_of_ble_eq_true rfl) ?_
  intro G A p e s m args below meth c hx hb hr hml hts hown hlocks hK hE hA H locs hP hD hS ls hl
  have hl : lv_has ls 13 [(0, .ref (a 0)), (1, .int p0), (2, .int p1), (3, .int p2), (4, .int p3)] := hl
  refine lv_iload_n hx hb dX4_access_0 rfl (lv_at hl 1 rfl) ?_
  refine lv_sipush (v := 254) hx hb dX4_access_1 (by decide) ?_
  refine lv_iand hx hb dX4_access_4 ?_
  refine lv_topi (fun v1 ev1 => ?_)
  refine lv_istore (lv' := [(5, .int v1), (0, .ref (a 0)), (1, .int p0), (2, .int p1), (3, .int p2), (4, .int p3)]) hx hb dX4_access_5 hl (by decide) rfl (fun ls hl => ?_)
  refine lv_iload hx hb dX4_access_7 (lv_at hl 0 rfl) ?_
  refine lv_sipush (v := 144) hx hb dX4_access_9 (by decide) ?_
  obtain ⟨z4, ez4⟩ : ∃ q : Int32, q = (if v1 < (144 : Int32) then (1 : Int32) else if v1 = (146 : Int32) then (1 : Int32) else (0 : Int32)) := ⟨_, rfl⟩
  have k5 : ∀ (v3 : Int32), v3 = z4 → ∀ (H : Heap) (locs : List Loc), va_P G vwCl (wM yy a u) H → va_D A (wM yy a u) → va_S A s.heap H locs → ∀ ls : Array Slot, lv_has ls 13 [(0, .ref (a 0)), (1, .int p0), (2, .int p1), (3, .int p2), (4, .int p3), (5, .int v1)] → W p l e rm_X4_access s m args below meth c H locs 0 0 (MQ below (gQi (wM yy a) (f_X4_access u p0 p1 p2 p3) G A) args s 0 0 A) (F0 m 28 ls [.int v3]) := by
    intro v3 jz4 H locs hP hD hS ls hl
    have ev3 : v3 = z4 := jz4
    refine lv_istore (lv' := [(6, .int v3), (0, .ref (a 0)), (1, .int p0), (2, .int p1), (3, .int p2), (4, .int p3), (5, .int v1)]) hx hb dX4_access_28 hl (by decide) rfl (fun ls hl => ?_)
    refine lv_iload hx hb dX4_access_30 (lv_at hl 6 rfl) ?_
    refine lv_sipush (v := 160) hx hb dX4_access_32 (by decide) ?_
    obtain ⟨z9, ez9⟩ : ∃ q : Int32, q = (if v1 < (160 : Int32) then if v1 = (178 : Int32) then (1 : Int32) else if v1 = (180 : Int32) then (1 : Int32) else (0 : Int32) else if v1 ≤ (174 : Int32) then (1 : Int32) else if v1 = (178 : Int32) then (1 : Int32) else if v1 = (180 : Int32) then (1 : Int32) else (0 : Int32)) := ⟨_, rfl⟩
    have k10 : ∀ (v8 : Int32), v8 = z9 → ∀ (H : Heap) (locs : List Loc), va_P G vwCl (wM yy a u) H → va_D A (wM yy a u) → va_S A s.heap H locs → ∀ ls : Array Slot, lv_has ls 13 [(0, .ref (a 0)), (1, .int p0), (2, .int p1), (3, .int p2), (4, .int p3), (5, .int v1), (6, .int v3)] → W p l e rm_X4_access s m args below meth c H locs 0 0 (MQ below (gQi (wM yy a) (f_X4_access u p0 p1 p2 p3) G A) args s 0 0 A) (F0 m 67 ls [.int v8]) := by
      intro v8 jz9 H locs hP hD hS ls hl
      have ev8 : v8 = z9 := jz9
      refine lv_istore (lv' := [(7, .int v8), (0, .ref (a 0)), (1, .int p0), (2, .int p1), (3, .int p2), (4, .int p3), (5, .int v1), (6, .int v3)]) hx hb dX4_access_67 hl (by decide) rfl (fun ls hl => ?_)
      refine lv_iload hx hb dX4_access_69 (lv_at hl 7 rfl) ?_
      refine lv_if_ne (tgt := 89) hx hb dX4_access_71 (by decide) (fun c16 => ?_) (fun c16 => ?_)
      · refine lv_aload_n hx hb dX4_access_89 rfl (lv_at hl 1 rfl) ?_
        refine va_get (D := G) (ci := 2) (v := .ref (a 1)) (C := RX4) (T := TX4) (N := 17) hx hb hts iw_X4_access_X4 hown hK hP 0 rfl rfl 1 (by decide) (hts (.fieldLink RX4 7 "MixBenchModel" "g" "[J") (by decide +kernel)) (fun _ h9 => h9) rfl dX4_access_90 ?_
        refine lv_iload_n hx hb dX4_access_93 rfl (lv_at hl 4 rfl) ?_
        refine va_lald hx hb hK hP 1 0 rfl rfl h1 dX4_access_94 ?_
        refine lv_aload_n hx hb dX4_access_95 rfl (lv_at hl 1 rfl) ?_
        refine lv_iload_n hx hb dX4_access_96 rfl (lv_at hl 2 rfl) ?_
        refine lv_iload hx hb dX4_access_97 (lv_at hl 5 rfl) ?_
        refine g_l (va_runV (As := [.int p0, .int p3]) (rest := [.long (m_g u p2.toNatClampNeg)]) ⟨hx, hb, hml, hown, hts⟩ (c_X4_number l yy a u p0 p3 (h2) G H.size) (cwV 2 hts gX4_access_X4_number rfl rfl rfl (by decide +kernel) ⟨Nat.le_of_ble_eq_true rfl, Nat.le_of_ble_eq_true rfl⟩) (g_preV eTrue_bl hK hE hP hD hS hA 0 rfl rfl) rfl rfl hl.1 rfl (lv_room (Nat.le_of_ble_eq_true rfl)) dX4_access_99 ⟨Nat.le_of_ble_eq_true rfl, Nat.le_of_ble_eq_true rfl⟩) hD hS hA (fun H locs hP hD hS => ?_)
        have hP : va_P G vwCl (wM yy a u) H := hP
        have hD : va_D A (wM yy a u) := hD
        refine lv_topl (fun v17 ev17 => ?_)
        refine lv_ladd hx hb dX4_access_102 ?_
        refine lv_topl (fun v18 ev18 => ?_)
        refine lv_lstore (lv' := [(8, .long v18), (7, .int v8), (0, .ref (a 0)), (1, .int p0), (2, .int p1), (3, .int p2), (4, .int p3), (5, .int v1), (6, .int v3)]) hx hb dX4_access_103 hl (by decide) rfl (fun ls hl => ?_)
        refine lv_iload hx hb dX4_access_105 (lv_at hl 7 rfl) ?_
        refine lv_sipush (v := 158) hx hb dX4_access_107 (by decide) ?_
        refine lv_icmp_ne (tgt := 143) hx hb dX4_access_110 (by decide) (fun c19 => ?_) (fun c19 => ?_)
        · refine lv_lload hx hb dX4_access_143 (lv_at hl 0 rfl) ?_
          refine p_i (W.runS (As := [.long v18]) (rest := []) ⟨hx, hb, hml, hown, hts⟩ (c_X4_beyond l v18 ) (va_cwS 1 hts gX4_access_X4_beyond rfl rfl rfl (by decide +kernel) ⟨Nat.le_of_ble_eq_true rfl, Nat.le_of_ble_eq_true rfl⟩) p_preT rfl rfl hl.1 rfl (lv_room (Nat.le_of_ble_eq_true rfl)) dX4_access_145 ⟨Nat.le_of_ble_eq_true rfl, Nat.le_of_ble_eq_true rfl⟩) ?_
          refine lv_if_eq (tgt := 153) hx hb dX4_access_148 (by decide) (fun c20 => ?_) (fun c20 => ?_)
          · refine lv_aload_n hx hb dX4_access_153 rfl (lv_at hl 2 rfl) ?_
            refine lv_dup hx hb dX4_access_154 rfl ?_
            refine va_get (D := G) (ci := 2) (v := .long (m_me u)) (C := RX4) (T := TX4) (N := 17) hx hb hts iw_X4_access_X4 hown hK hP 0 rfl rfl 10 (by decide) (hts (.fieldLink RX4 280 "MixBenchModel" "mems" "J") (by decide +kernel)) (fun _ h9 => h9) rfl dX4_access_155 ?_
            refine lv_lconst (v := 1) hx hb dX4_access_158 (by decide) ?_
            refine lv_ladd hx hb dX4_access_159 ?_
            refine va_put (D := G) (ci := 2) (v := .long ((m_me u) + (1 : Int64))) (ty := .long) (C := RX4) (T := TX4) (N := 17) hx hb hts iw_X4_access_X4 tyX4 tyX4_ok nmX4 hown hK hP hD hS 0 rfl rfl 10 (by decide) (hts (.fieldLink RX4 280 "MixBenchModel" "mems" "J") (by decide +kernel)) (fun _ h9 => h9) rfl (by decide +kernel) rfl rfl (Nat.le_of_ble_eq_true rfl) dX4_access_160 (fun H locs hP hD hS => ?_)
            obtain ⟨u21, eu21⟩ : ∃ z, z = sm_me u ((m_me u) + (1 : Int64)) := ⟨_, rfl⟩
            have hP : va_P G vwCl (wM yy a u21) H := by rw [eu21]; exact hP
            have hD : va_D A (wM yy a u21) := by rw [eu21]; exact hD
            refine lv_iload hx hb dX4_access_163 (lv_at hl 7 rfl) ?_
            refine lv_sipush (v := 146) hx hb dX4_access_165 (by decide) ?_
            obtain ⟨z24, ez24⟩ : ∃ q : Int32, q = (if v1 = (146 : Int32) then (4 : Int32) else if v1 = (178 : Int32) then (4 : Int32) else if v1 = (180 : Int32) then (8 : Int32) else jshl (1 : Int32) ((jshr v1 (2 : Int32)) &&& (3 : Int32))) := ⟨_, rfl⟩
            have k25 : ∀ (v23 : Int32), v23 = z24 → ∀ (H : Heap) (locs : List Loc), va_P G vwCl (wM yy a u21) H → va_D A (wM yy a u21) → va_S A s.heap H locs → ∀ ls : Array Slot, lv_has ls 13 [(0, .ref (a 0)), (1, .int p0), (2, .int p1), (3, .int p2), (4, .int p3), (5, .int v1), (6, .int v3), (7, .int v8), (8, .long v18)] → W p l e rm_X4_access s m args below meth c H locs 0 0 (MQ below (gQi (wM yy a) (f_X4_access u p0 p1 p2 p3) G A) args s 0 0 A) (F0 m 204 ls [.int v23]) := by
              intro v23 jz24 H locs hP hD hS ls hl
              have ev23 : v23 = z24 := jz24
              refine lv_istore (lv' := [(10, .int v23), (0, .ref (a 0)), (1, .int p0), (2, .int p1), (3, .int p2), (4, .int p3), (5, .int v1), (6, .int v3), (7, .int v8), (8, .long v18)]) hx hb dX4_access_204 hl (by decide) rfl (fun ls hl => ?_)
              refine lv_iload hx hb dX4_access_206 (lv_at hl 6 rfl) ?_
              refine lv_sipush (v := 146) hx hb dX4_access_208 (by decide) ?_
              refine lv_icmp_ne (tgt := 230) hx hb dX4_access_211 (by decide) (fun c28 => ?_) (fun c28 => ?_)
              · refine lv_iload hx hb dX4_access_230 (lv_at hl 7 rfl) ?_
                refine lv_if_eq (tgt := 272) hx hb dX4_access_232 (by decide) (fun c29 => ?_) (fun c29 => ?_)
                · refine lv_iload hx hb dX4_access_272 (lv_at hl 6 rfl) ?_
                  refine lv_sipush (v := 178) hx hb dX4_access_274 (by decide) ?_
                  obtain ⟨z32, ez32⟩ : ∃ q : Int64, q = (if v1 = (178 : Int32) then jlushr (m_g u21 p1.toNatClampNeg) (32 : Int32) else if v1 = (180 : Int32) then p1.toInt64 else m_g u21 p1.toNatClampNeg) := ⟨_, rfl⟩
                  have k33 : ∀ (v31 : Int64), v31 = z32 → ∀ (H : Heap) (locs : List Loc), va_P G vwCl (wM yy a u21) H → va_D A (wM yy a u21) → va_S A s.heap H locs → ∀ ls : Array Slot, lv_has ls 13 [(0, .ref (a 0)), (1, .int p0), (2, .int p1), (3, .int p2), (4, .int p3), (5, .int v1), (6, .int v3), (7, .int v8), (8, .long v18), (10, .int v23)] → W p l e rm_X4_access s m args below meth c H locs 0 0 (MQ below (gQi (wM yy a) (f_X4_access u p0 p1 p2 p3) G A) args s 0 0 A) (F0 m 311 ls [.long v31]) := by
                    intro v31 jz32 H locs hP hD hS ls hl
                    have ev31 : v31 = z32 := jz32
                    refine lv_lstore (lv' := [(11, .long v31), (0, .ref (a 0)), (1, .int p0), (2, .int p1), (3, .int p2), (4, .int p3), (5, .int v1), (6, .int v3), (7, .int v8), (8, .long v18), (10, .int v23)]) hx hb dX4_access_311 hl (by decide) rfl (fun ls hl => ?_)
                    refine lv_iload hx hb dX4_access_313 (lv_at hl 6 rfl) ?_
                    refine lv_sipush (v := 176) hx hb dX4_access_315 (by decide) ?_
                    obtain ⟨z37, ez37⟩ : ∃ q : MS, q = (if (176 : Int32) ≤ v1 then u21 else if (v1 &&& (2 : Int32)) = (0 : Int32) then let z42 : Int32 := (if (f_X4_signed v31 v23) = v31 then (0 : Int32) else (1 : Int32)); let v41 : Int32 := z42; let u44 : MS := f_X4_over u21 v41; u44 else u21) := ⟨_, rfl⟩
                    have k38 : ∀ (u36 : MS), u36 = z37 → ∀ (H : Heap) (locs : List Loc), va_P G vwCl (wM yy a u36) H → va_D A (wM yy a u36) → va_S A s.heap H locs → ∀ ls : Array Slot, lv_has ls 13 [(0, .ref (a 0)), (1, .int p0), (2, .int p1), (3, .int p2), (4, .int p3), (5, .int v1), (6, .int v3), (7, .int v8), (8, .long v18), (10, .int v23), (11, .long v31)] → W p l e rm_X4_access s m args below meth c H locs 0 0 (MQ below (gQi (wM yy a) (f_X4_access u p0 p1 p2 p3) G A) args s 0 0 A) (F0 m 350 ls []) := by
                      intro u36 jz37 H locs hP hD hS ls hl
                      have eu36 : u36 = z37 := jz37
                      refine lv_aload_n hx hb dX4_access_350 rfl (lv_at hl 0 rfl) ?_
                      refine lv_lload hx hb dX4_access_351 (lv_at hl 8 rfl) ?_
                      refine lv_iload hx hb dX4_access_353 (lv_at hl 9 rfl) ?_
                      refine lv_lload hx hb dX4_access_355 (lv_at hl 10 rfl) ?_
                      refine g_v (va_runV (As := [.long v18, .int v23, .long v31]) (rest := []) ⟨hx, hb, hml, hown, hts⟩ (c_X4_m_ l yy a u36 v18 v23 v31 (c20) (by have eu36 := eu36.symm; subst eu36; have ez37 := ez37.symm; subst ez37; have ev31 := ev31.symm; subst ev31; have ez32 := ez32.symm; subst ez32; have ev23 := ev23.symm; subst ev23; have ez24 := ez24.symm; subst ez24; have eu21 := eu21.symm; subst eu21; have ev18 := ev18.symm; subst ev18; have ev17 := ev17.symm; subst ev17; have ev8 := ev8.symm; subst ev8; have ez9 := ez9.symm; subst ez9; have ev3 := ev3.symm; subst ev3; have ez4 := ez4.symm; subst ez4; have ev1 := ev1.symm; subst ev1; repeat (first | exact sz_op _ | exact Or.inr (Or.inr (Or.inl rfl)) | exact Or.inr (Or.inr (Or.inr rfl)) | refine or_i (P := fun q : Int32 => q = 1 ∨ q = 2 ∨ q = 4 ∨ q = 8) ?_ ?_)) G H.size) (cwV 3 hts gX4_access_X4_m_ rfl rfl rfl (by decide +kernel) ⟨Nat.le_of_ble_eq_true rfl, Nat.le_of_ble_eq_true rfl⟩) (g_preV eTrue_bl hK hE hP hD hS hA 0 rfl rfl) rfl rfl hl.1 rfl (lv_room (Nat.le_of_ble_eq_true rfl)) dX4_access_357 ⟨Nat.le_of_ble_eq_true rfl, Nat.le_of_ble_eq_true rfl⟩) hD hS hA (fun H locs hP hD hS => ?_)
                      obtain ⟨u45, eu45⟩ : ∃ z, z = f_X4_m_ u36 v18 v23 v31 := ⟨_, rfl⟩
                      have hP : va_P G vwCl (wM yy a u45) H := by rw [eu45]; exact hP
                      have hD : va_D A (wM yy a u45) := by rw [eu45]; exact hD
                      refine lv_aload_n hx hb dX4_access_360 rfl (lv_at hl 0 rfl) ?_
                      refine g_i (va_runV (As := []) (rest := []) ⟨hx, hb, hml, hown, hts⟩ (c_X4_on l yy a u45   G H.size) (cwV 0 hts gX4_access_X4_on rfl rfl rfl (by decide +kernel) ⟨Nat.le_of_ble_eq_true rfl, Nat.le_of_ble_eq_true rfl⟩) (g_preV eTrue_bl hK hE hP hD hS hA 0 rfl rfl) rfl rfl hl.1 rfl (lv_room (Nat.le_of_ble_eq_true rfl)) dX4_access_361 ⟨Nat.le_of_ble_eq_true rfl, Nat.le_of_ble_eq_true rfl⟩) hD hS hA (fun H locs hP hD hS => ?_)
                      refine lv_topi (fun v46 ev46 => ?_)
                      obtain ⟨u47, eu47⟩ : ∃ z, z = (f_X4_on u45 ).2 := ⟨_, rfl⟩
                      have hP : va_P G vwCl (wM yy a u47) H := by rw [eu47]; exact hP
                      have hD : va_D A (wM yy a u47) := by rw [eu47]; exact hD
                      exact g_iret (by have eu47 := eu47.symm; subst eu47; have ev46 := ev46.symm; subst ev46; have eu45 := eu45.symm; subst eu45; have eu36 := eu36.symm; subst eu36; have ez37 := ez37.symm; subst ez37; have ev31 := ev31.symm; subst ev31; have ez32 := ez32.symm; subst ez32; have ev23 := ev23.symm; subst ev23; have ez24 := ez24.symm; subst ez24; have eu21 := eu21.symm; subst eu21; have ev18 := ev18.symm; subst ev18; have ev17 := ev17.symm; subst ev17; have ev8 := ev8.symm; subst ev8; have ez9 := ez9.symm; subst ez9; have ev3 := ev3.symm; subst ev3; have ez4 := ez4.symm; subst ez4; have ev1 := ev1.symm; subst ev1; exact (if_neg c16).trans ((if_neg c19).trans ((if_pos c20).trans ((if_neg c28).trans ((if_pos c29).trans (rfl)))))) hx hb hr hP hD hS hlocks dX4_access_364
                    refine lv_icmp_ge (tgt := 350) hx hb dX4_access_318 (by decide) (fun c35 => ?_) (fun c35 => ?_)
                    · exact k38 u21 (ez37.trans (by exact (if_pos c35).trans (rfl))).symm _ _ hP hD hS ls (lv_sub hl [1, 2, 3, 4, 5, 6, 7, 8, 9, 10, 0] rfl)
                    · refine lv_iload hx hb dX4_access_321 (lv_at hl 6 rfl) ?_
                      refine lv_iconst (v := 2) hx hb dX4_access_323 (by decide) ?_
                      refine lv_iand hx hb dX4_access_324 ?_
                      refine lv_if_ne (tgt := 350) hx hb dX4_access_325 (by decide) (fun c39 => ?_) (fun c39 => ?_)
                      · exact k38 u21 (ez37.trans (by exact (if_neg c35).trans ((if_neg c39).trans (rfl)))).symm _ _ hP hD hS ls (lv_sub hl [1, 2, 3, 4, 5, 6, 7, 8, 9, 10, 0] rfl)
                      · refine lv_aload_n hx hb dX4_access_328 rfl (lv_at hl 1 rfl) ?_
                        refine lv_lload hx hb dX4_access_329 (lv_at hl 0 rfl) ?_
                        refine lv_iload hx hb dX4_access_331 (lv_at hl 10 rfl) ?_
                        refine p_l (W.runS (As := [.long v31, .int v23]) (rest := [.ref (a 0)]) ⟨hx, hb, hml, hown, hts⟩ (c_X4_signed l v31 v23 ) (va_cwS 2 hts gX4_access_X4_signed rfl rfl rfl (by decide +kernel) ⟨Nat.le_of_ble_eq_true rfl, Nat.le_of_ble_eq_true rfl⟩) p_preT rfl rfl hl.1 rfl (lv_room (Nat.le_of_ble_eq_true rfl)) dX4_access_333 ⟨Nat.le_of_ble_eq_true rfl, Nat.le_of_ble_eq_true rfl⟩) ?_
                        refine lv_lload hx hb dX4_access_336 (lv_at hl 0 rfl) ?_
                        obtain ⟨z42, ez42⟩ : ∃ q : Int32, q = (if (f_X4_signed v31 v23) = v31 then (0 : Int32) else (1 : Int32)) := ⟨_, rfl⟩
                        have k43 : ∀ (v41 : Int32), v41 = z42 → ∀ (H : Heap) (locs : List Loc), va_P G vwCl (wM yy a u21) H → va_D A (wM yy a u21) → va_S A s.heap H locs → ∀ ls : Array Slot, lv_has ls 13 [(0, .ref (a 0)), (1, .int p0), (2, .int p1), (3, .int p2), (4, .int p3), (5, .int v1), (6, .int v3), (7, .int v8), (8, .long v18), (10, .int v23), (11, .long v31)] → W p l e rm_X4_access s m args below meth c H locs 0 0 (MQ below (gQi (wM yy a) (f_X4_access u p0 p1 p2 p3) G A) args s 0 0 A) (F0 m 347 ls [.int v41, .ref (a 0)]) := by
                          intro v41 jz42 H locs hP hD hS ls hl
                          have ev41 : v41 = z42 := jz42
                          refine g_v (va_runV (As := [.int v41]) (rest := []) ⟨hx, hb, hml, hown, hts⟩ (c_X4_over l yy a u21 v41  G H.size) (cwV 1 hts gX4_access_X4_over rfl rfl rfl (by decide +kernel) ⟨Nat.le_of_ble_eq_true rfl, Nat.le_of_ble_eq_true rfl⟩) (g_preV eTrue_bl hK hE hP hD hS hA 0 rfl rfl) rfl rfl hl.1 rfl (lv_room (Nat.le_of_ble_eq_true rfl)) dX4_access_347 ⟨Nat.le_of_ble_eq_true rfl, Nat.le_of_ble_eq_true rfl⟩) hD hS hA (fun H locs hP hD hS => ?_)
                          obtain ⟨u44, eu44⟩ : ∃ z, z = f_X4_over u21 v41 := ⟨_, rfl⟩
                          have hP : va_P G vwCl (wM yy a u44) H := by rw [eu44]; exact hP
                          have hD : va_D A (wM yy a u44) := by rw [eu44]; exact hD
                          exact k38 u44 (ez37.trans (by have eu44 := eu44.symm; subst eu44; have ev41 := ev41.symm; subst ev41; have ez42 := ez42.symm; subst ez42; exact (if_neg c35).trans ((if_pos c39).trans (rfl)))).symm _ _ hP hD hS ls (lv_sub hl [0, 1, 2, 3, 4, 5, 6, 7, 8, 9, 10] rfl)
                        refine lc_eq (tgt := 346) hx hb dX4_access_338 dX4_access_339 (by decide) (fun c40 => ?_) (fun c40 => ?_)
                        · refine lv_iconst (v := 0) hx hb dX4_access_346 (by decide) ?_
                          exact k43 (0 : Int32) (ez42.trans (by exact (if_pos c40).trans (rfl))).symm _ _ hP hD hS ls (lv_sub hl [1, 2, 3, 4, 5, 6, 7, 8, 9, 10, 0] rfl)
                        · refine lv_iconst (v := 1) hx hb dX4_access_342 (by decide) ?_
                          refine lv_goto (tgt := 347) hx hb dX4_access_343 (by decide) ?_
                          exact k43 (1 : Int32) (ez42.trans (by exact (if_neg c40).trans (rfl))).symm _ _ hP hD hS ls (lv_sub hl [1, 2, 3, 4, 5, 6, 7, 8, 9, 10, 0] rfl)
                  refine lv_icmp_ne (tgt := 292) hx hb dX4_access_277 (by decide) (fun c30 => ?_) (fun c30 => ?_)
                  · refine lv_iload hx hb dX4_access_292 (lv_at hl 6 rfl) ?_
                    refine lv_sipush (v := 180) hx hb dX4_access_294 (by decide) ?_
                    refine lv_icmp_ne (tgt := 305) hx hb dX4_access_297 (by decide) (fun c34 => ?_) (fun c34 => ?_)
                    · refine lv_aload_n hx hb dX4_access_305 rfl (lv_at hl 1 rfl) ?_
                      refine va_get (D := G) (ci := 2) (v := .ref (a 1)) (C := RX4) (T := TX4) (N := 17) hx hb hts iw_X4_access_X4 hown hK hP 0 rfl rfl 1 (by decide) (hts (.fieldLink RX4 7 "MixBenchModel" "g" "[J") (by decide +kernel)) (fun _ h9 => h9) rfl dX4_access_306 ?_
                      refine lv_iload_n hx hb dX4_access_309 rfl (lv_at hl 3 rfl) ?_
                      refine va_lald hx hb hK hP 1 0 rfl rfl h0 dX4_access_310 ?_
                      exact k33 (m_g u21 p1.toNatClampNeg) (ez32.trans (by exact (if_neg c30).trans ((if_neg c34).trans (rfl)))).symm _ _ hP hD hS ls (lv_sub hl [1, 2, 3, 4, 5, 6, 7, 8, 9, 0] rfl)
                    · refine lv_iload_n hx hb dX4_access_300 rfl (lv_at hl 3 rfl) ?_
                      refine lv_i2l (v := p1.toInt64) hx hb dX4_access_301 rfl ?_
                      refine lv_goto (tgt := 311) hx hb dX4_access_302 (by decide) ?_
                      exact k33 p1.toInt64 (ez32.trans (by exact (if_neg c30).trans ((if_pos c34).trans (rfl)))).symm _ _ hP hD hS ls (lv_sub hl [1, 2, 3, 4, 5, 6, 7, 8, 9, 0] rfl)
                  · refine lv_aload_n hx hb dX4_access_280 rfl (lv_at hl 1 rfl) ?_
                    refine va_get (D := G) (ci := 2) (v := .ref (a 1)) (C := RX4) (T := TX4) (N := 17) hx hb hts iw_X4_access_X4 hown hK hP 0 rfl rfl 1 (by decide) (hts (.fieldLink RX4 7 "MixBenchModel" "g" "[J") (by decide +kernel)) (fun _ h9 => h9) rfl dX4_access_281 ?_
                    refine lv_iload_n hx hb dX4_access_284 rfl (lv_at hl 3 rfl) ?_
                    refine va_lald hx hb hK hP 1 0 rfl rfl h0 dX4_access_285 ?_
                    refine lv_bipush (v := 32) hx hb dX4_access_286 (by decide) ?_
                    refine lv_lushr (v := jlushr (m_g u21 p1.toNatClampNeg) (32 : Int32)) hx hb dX4_access_288 rfl ?_
                    refine lv_goto (tgt := 311) hx hb dX4_access_289 (by decide) ?_
                    exact k33 (jlushr (m_g u21 p1.toNatClampNeg) (32 : Int32)) (ez32.trans (by exact (if_pos c30).trans (rfl))).symm _ _ hP hD hS ls (lv_sub hl [1, 2, 3, 4, 5, 6, 7, 8, 9, 0] rfl)
                · refine lv_aload_n hx hb dX4_access_235 rfl (lv_at hl 1 rfl) ?_
                  refine lv_iload_n hx hb dX4_access_236 rfl (lv_at hl 3 rfl) ?_
                  refine lv_iload hx hb dX4_access_237 (lv_at hl 6 rfl) ?_
                  refine lv_iconst (v := 2) hx hb dX4_access_239 (by decide) ?_
                  refine lv_iand hx hb dX4_access_240 ?_
                  obtain ⟨z50, ez50⟩ : ∃ q : Int64, q = (if (v1 &&& (2 : Int32)) = (0 : Int32) then let v53 : Int64 := f_X4_m u21 v18 v23; f_X4_signed v53 v23 else let v52 : Int64 := f_X4_m u21 v18 v23; v52) := ⟨_, rfl⟩
                  have k51 : ∀ (v49 : Int64), v49 = z50 → ∀ (H : Heap) (locs : List Loc), va_P G vwCl (wM yy a u21) H → va_D A (wM yy a u21) → va_S A s.heap H locs → ∀ ls : Array Slot, lv_has ls 13 [(0, .ref (a 0)), (1, .int p0), (2, .int p1), (3, .int p2), (4, .int p3), (5, .int v1), (6, .int v3), (7, .int v8), (8, .long v18), (10, .int v23)] → W p l e rm_X4_access s m args below meth c H locs 0 0 (MQ below (gQi (wM yy a) (f_X4_access u p0 p1 p2 p3) G A) args s 0 0 A) (F0 m 268 ls [.long v49, .int p1, .ref (a 0)]) := by
                    intro v49 jz50 H locs hP hD hS ls hl
                    have ev49 : v49 = z50 := jz50
                    refine g_i (va_runV (As := [.int p1, .long v49]) (rest := []) ⟨hx, hb, hml, hown, hts⟩ (c_X4_done l yy a u21 p1 v49 (h0) G H.size) (cwV 2 hts gX4_access_X4_done rfl rfl rfl (by decide +kernel) ⟨Nat.le_of_ble_eq_true rfl, Nat.le_of_ble_eq_true rfl⟩) (g_preV eTrue_bl hK hE hP hD hS hA 0 rfl rfl) rfl rfl hl.1 rfl (lv_room (Nat.le_of_ble_eq_true rfl)) dX4_access_268 ⟨Nat.le_of_ble_eq_true rfl, Nat.le_of_ble_eq_true rfl⟩) hD hS hA (fun H locs hP hD hS => ?_)
                    refine lv_topi (fun v54 ev54 => ?_)
                    obtain ⟨u55, eu55⟩ : ∃ z, z = (f_X4_done u21 p1 v49).2 := ⟨_, rfl⟩
                    have hP : va_P G vwCl (wM yy a u55) H := by rw [eu55]; exact hP
                    have hD : va_D A (wM yy a u55) := by rw [eu55]; exact hD
                    exact g_iret (by have eu55 := eu55.symm; subst eu55; have ev54 := ev54.symm; subst ev54; have ev49 := ev49.symm; subst ev49; have ez50 := ez50.symm; subst ez50; have ev23 := ev23.symm; subst ev23; have ez24 := ez24.symm; subst ez24; have eu21 := eu21.symm; subst eu21; have ev18 := ev18.symm; subst ev18; have ev17 := ev17.symm; subst ev17; have ev8 := ev8.symm; subst ev8; have ez9 := ez9.symm; subst ez9; have ev3 := ev3.symm; subst ev3; have ez4 := ez4.symm; subst ez4; have ev1 := ev1.symm; subst ev1; exact (if_neg c16).trans ((if_neg c19).trans ((if_pos c20).trans ((if_neg c28).trans ((if_neg c29).trans (rfl)))))) hx hb hr hP hD hS hlocks dX4_access_271
                  refine lv_if_ne (tgt := 260) hx hb dX4_access_241 (by decide) (fun c48 => ?_) (fun c48 => ?_)
                  · refine lv_aload_n hx hb dX4_access_260 rfl (lv_at hl 1 rfl) ?_
                    refine lv_lload hx hb dX4_access_261 (lv_at hl 9 rfl) ?_
                    refine lv_iload hx hb dX4_access_263 (lv_at hl 0 rfl) ?_
                    refine g_l (va_runV (As := [.long v18, .int v23]) (rest := [.int p1, .ref (a 0)]) ⟨hx, hb, hml, hown, hts⟩ (c_X4_m l yy a u21 v18 v23 (c20) (by have ev23 := ev23.symm; subst ev23; have ez24 := ez24.symm; subst ez24; have eu21 := eu21.symm; subst eu21; have ev18 := ev18.symm; subst ev18; have ev17 := ev17.symm; subst ev17; have ev8 := ev8.symm; subst ev8; have ez9 := ez9.symm; subst ez9; have ev3 := ev3.symm; subst ev3; have ez4 := ez4.symm; subst ez4; have ev1 := ev1.symm; subst ev1; repeat (first | exact sz_op _ | exact Or.inr (Or.inr (Or.inl rfl)) | exact Or.inr (Or.inr (Or.inr rfl)) | refine or_i (P := fun q : Int32 => q = 1 ∨ q = 2 ∨ q = 4 ∨ q = 8) ?_ ?_)) G H.size) (cwV 2 hts gX4_access_X4_m rfl rfl rfl (by decide +kernel) ⟨Nat.le_of_ble_eq_true rfl, Nat.le_of_ble_eq_true rfl⟩) (g_preV eTrue_bl hK hE hP hD hS hA 0 rfl rfl) rfl rfl hl.1 rfl (lv_room (Nat.le_of_ble_eq_true rfl)) dX4_access_265 ⟨Nat.le_of_ble_eq_true rfl, Nat.le_of_ble_eq_true rfl⟩) hD hS hA (fun H locs hP hD hS => ?_)
                    have hP : va_P G vwCl (wM yy a u21) H := hP
                    have hD : va_D A (wM yy a u21) := hD
                    refine lv_topl (fun v52 ev52 => ?_)
                    exact k51 v52 (ez50.trans (by have ev52 := ev52.symm; subst ev52; exact (if_neg c48).trans (rfl))).symm _ _ hP hD hS ls (lv_sub hl [1, 2, 3, 4, 5, 6, 7, 8, 9, 0] rfl)
                  · refine lv_aload_n hx hb dX4_access_244 rfl (lv_at hl 1 rfl) ?_
                    refine lv_lload hx hb dX4_access_245 (lv_at hl 9 rfl) ?_
                    refine lv_iload hx hb dX4_access_247 (lv_at hl 0 rfl) ?_
                    refine g_l (va_runV (As := [.long v18, .int v23]) (rest := [.int p1, .ref (a 0)]) ⟨hx, hb, hml, hown, hts⟩ (c_X4_m l yy a u21 v18 v23 (c20) (by have ev23 := ev23.symm; subst ev23; have ez24 := ez24.symm; subst ez24; have eu21 := eu21.symm; subst eu21; have ev18 := ev18.symm; subst ev18; have ev17 := ev17.symm; subst ev17; have ev8 := ev8.symm; subst ev8; have ez9 := ez9.symm; subst ez9; have ev3 := ev3.symm; subst ev3; have ez4 := ez4.symm; subst ez4; have ev1 := ev1.symm; subst ev1; repeat (first | exact sz_op _ | exact Or.inr (Or.inr (Or.inl rfl)) | exact Or.inr (Or.inr (Or.inr rfl)) | refine or_i (P := fun q : Int32 => q = 1 ∨ q = 2 ∨ q = 4 ∨ q = 8) ?_ ?_)) G H.size) (cwV 2 hts gX4_access_X4_m rfl rfl rfl (by decide +kernel) ⟨Nat.le_of_ble_eq_true rfl, Nat.le_of_ble_eq_true rfl⟩) (g_preV eTrue_bl hK hE hP hD hS hA 0 rfl rfl) rfl rfl hl.1 rfl (lv_room (Nat.le_of_ble_eq_true rfl)) dX4_access_249 ⟨Nat.le_of_ble_eq_true rfl, Nat.le_of_ble_eq_true rfl⟩) hD hS hA (fun H locs hP hD hS => ?_)
                    have hP : va_P G vwCl (wM yy a u21) H := hP
                    have hD : va_D A (wM yy a u21) := hD
                    refine lv_topl (fun v53 ev53 => ?_)
                    refine lv_iload hx hb dX4_access_252 (lv_at hl 0 rfl) ?_
                    refine p_l (W.runS (As := [.long v53, .int v23]) (rest := [.int p1, .ref (a 0)]) ⟨hx, hb, hml, hown, hts⟩ (c_X4_signed l v53 v23 ) (va_cwS 2 hts gX4_access_X4_signed rfl rfl rfl (by decide +kernel) ⟨Nat.le_of_ble_eq_true rfl, Nat.le_of_ble_eq_true rfl⟩) p_preT rfl rfl hl.1 rfl (lv_room (Nat.le_of_ble_eq_true rfl)) dX4_access_254 ⟨Nat.le_of_ble_eq_true rfl, Nat.le_of_ble_eq_true rfl⟩) ?_
                    refine lv_goto (tgt := 268) hx hb dX4_access_257 (by decide) ?_
                    exact k51 (f_X4_signed v53 v23) (ez50.trans (by have ev53 := ev53.symm; subst ev53; exact (if_pos c48).trans (rfl))).symm _ _ hP hD hS ls (lv_sub hl [1, 2, 3, 4, 5, 6, 7, 8, 9, 0] rfl)
              · refine lv_aload_n hx hb dX4_access_214 rfl (lv_at hl 1 rfl) ?_
                refine lv_iload_n hx hb dX4_access_215 rfl (lv_at hl 3 rfl) ?_
                refine lv_aload_n hx hb dX4_access_216 rfl (lv_at hl 1 rfl) ?_
                refine lv_lload hx hb dX4_access_217 (lv_at hl 9 rfl) ?_
                refine lv_iconst (v := 4) hx hb dX4_access_219 (by decide) ?_
                refine g_l (va_runV (As := [.long v18, .int (4 : Int32)]) (rest := [.int p1, .ref (a 0)]) ⟨hx, hb, hml, hown, hts⟩ (c_X4_m l yy a u21 v18 (4 : Int32) (c20) (by decide) G H.size) (cwV 2 hts gX4_access_X4_m rfl rfl rfl (by decide +kernel) ⟨Nat.le_of_ble_eq_true rfl, Nat.le_of_ble_eq_true rfl⟩) (g_preV eTrue_bl hK hE hP hD hS hA 0 rfl rfl) rfl rfl hl.1 rfl (lv_room (Nat.le_of_ble_eq_true rfl)) dX4_access_220 ⟨Nat.le_of_ble_eq_true rfl, Nat.le_of_ble_eq_true rfl⟩) hD hS hA (fun H locs hP hD hS => ?_)
                have hP : va_P G vwCl (wM yy a u21) H := hP
                have hD : va_D A (wM yy a u21) := hD
                refine lv_topl (fun v56 ev56 => ?_)
                refine lv_bipush (v := 32) hx hb dX4_access_223 (by decide) ?_
                refine lv_lshl (v := jlshl v56 (32 : Int32)) hx hb dX4_access_225 rfl ?_
                refine g_i (va_runV (As := [.int p1, .long (jlshl v56 (32 : Int32))]) (rest := []) ⟨hx, hb, hml, hown, hts⟩ (c_X4_done l yy a u21 p1 (jlshl v56 (32 : Int32)) (h0) G H.size) (cwV 2 hts gX4_access_X4_done rfl rfl rfl (by decide +kernel) ⟨Nat.le_of_ble_eq_true rfl, Nat.le_of_ble_eq_true rfl⟩) (g_preV eTrue_bl hK hE hP hD hS hA 0 rfl rfl) rfl rfl hl.1 rfl (lv_room (Nat.le_of_ble_eq_true rfl)) dX4_access_226 ⟨Nat.le_of_ble_eq_true rfl, Nat.le_of_ble_eq_true rfl⟩) hD hS hA (fun H locs hP hD hS => ?_)
                refine lv_topi (fun v57 ev57 => ?_)
                obtain ⟨u58, eu58⟩ : ∃ z, z = (f_X4_done u21 p1 (jlshl v56 (32 : Int32))).2 := ⟨_, rfl⟩
                have hP : va_P G vwCl (wM yy a u58) H := by rw [eu58]; exact hP
                have hD : va_D A (wM yy a u58) := by rw [eu58]; exact hD
                exact g_iret (by have eu58 := eu58.symm; subst eu58; have ev57 := ev57.symm; subst ev57; have ev56 := ev56.symm; subst ev56; have ev23 := ev23.symm; subst ev23; have ez24 := ez24.symm; subst ez24; have eu21 := eu21.symm; subst eu21; have ev18 := ev18.symm; subst ev18; have ev17 := ev17.symm; subst ev17; have ev8 := ev8.symm; subst ev8; have ez9 := ez9.symm; subst ez9; have ev3 := ev3.symm; subst ev3; have ez4 := ez4.symm; subst ez4; have ev1 := ev1.symm; subst ev1; exact (if_neg c16).trans ((if_neg c19).trans ((if_pos c20).trans ((if_pos c28).trans (rfl))))) hx hb hr hP hD hS hlocks dX4_access_229
            refine lv_icmp_eq (tgt := 179) hx hb dX4_access_168 (by decide) (fun c22 => ?_) (fun c22 => ?_)
            · refine lv_iconst (v := 4) hx hb dX4_access_179 (by decide) ?_
              refine lv_goto (tgt := 204) hx hb dX4_access_180 (by decide) ?_
              exact k25 (4 : Int32) (ez24.trans (by exact (if_pos c22).trans (rfl))).symm _ _ hP hD hS ls (lv_sub hl [2, 3, 4, 5, 6, 7, 8, 1, 0] rfl)
            · refine lv_iload hx hb dX4_access_171 (lv_at hl 7 rfl) ?_
              refine lv_sipush (v := 178) hx hb dX4_access_173 (by decide) ?_
              refine lv_icmp_ne (tgt := 183) hx hb dX4_access_176 (by decide) (fun c26 => ?_) (fun c26 => ?_)
              · refine lv_iload hx hb dX4_access_183 (lv_at hl 7 rfl) ?_
                refine lv_sipush (v := 180) hx hb dX4_access_185 (by decide) ?_
                refine lv_icmp_ne (tgt := 196) hx hb dX4_access_188 (by decide) (fun c27 => ?_) (fun c27 => ?_)
                · refine lv_iconst (v := 1) hx hb dX4_access_196 (by decide) ?_
                  refine lv_iload hx hb dX4_access_197 (lv_at hl 7 rfl) ?_
                  refine lv_iconst (v := 2) hx hb dX4_access_199 (by decide) ?_
                  refine lv_ishr hx hb dX4_access_200 ?_
                  refine lv_iconst (v := 3) hx hb dX4_access_201 (by decide) ?_
                  refine lv_iand hx hb dX4_access_202 ?_
                  refine lv_ishl hx hb dX4_access_203 ?_
                  exact k25 (jshl (1 : Int32) ((jshr v1 (2 : Int32)) &&& (3 : Int32))) (ez24.trans (by exact (if_neg c22).trans ((if_neg c26).trans ((if_neg c27).trans (rfl))))).symm _ _ hP hD hS ls (lv_sub hl [2, 3, 4, 5, 6, 7, 8, 1, 0] rfl)
                · refine lv_bipush (v := 8) hx hb dX4_access_191 (by decide) ?_
                  refine lv_goto (tgt := 204) hx hb dX4_access_193 (by decide) ?_
                  exact k25 (8 : Int32) (ez24.trans (by exact (if_neg c22).trans ((if_neg c26).trans ((if_pos c27).trans (rfl))))).symm _ _ hP hD hS ls (lv_sub hl [2, 3, 4, 5, 6, 7, 8, 1, 0] rfl)
              · refine lv_iconst (v := 4) hx hb dX4_access_179 (by decide) ?_
                refine lv_goto (tgt := 204) hx hb dX4_access_180 (by decide) ?_
                exact k25 (4 : Int32) (ez24.trans (by exact (if_neg c22).trans ((if_pos c26).trans (rfl)))).symm _ _ hP hD hS ls (lv_sub hl [2, 3, 4, 5, 6, 7, 8, 1, 0] rfl)
          · refine lv_iconst (v := 3) hx hb dX4_access_151 (by decide) ?_
            exact g_iret (by have ev18 := ev18.symm; subst ev18; have ev17 := ev17.symm; subst ev17; have ev8 := ev8.symm; subst ev8; have ez9 := ez9.symm; subst ez9; have ev3 := ev3.symm; subst ev3; have ez4 := ez4.symm; subst ez4; have ev1 := ev1.symm; subst ev1; exact (if_neg c16).trans ((if_neg c19).trans ((if_neg c20).trans (rfl)))) hx hb hr hP hD hS hlocks dX4_access_152
        · refine lv_aload_n hx hb dX4_access_113 rfl (lv_at hl 2 rfl) ?_
          refine va_get (D := G) (ci := 2) (v := .long (m_pc u)) (C := RX4) (T := TX4) (N := 17) hx hb hts iw_X4_access_X4 hown hK hP 0 rfl rfl 8 (by decide) (hts (.fieldLink RX4 162 "MixBenchModel" "pc" "J") (by decide +kernel)) (fun _ h9 => h9) rfl dX4_access_114 ?_
          refine lv_topl (fun v59 ev59 => ?_)
          refine lv_lstore (lv' := [(10, .long v59), (8, .long v18), (7, .int v8), (0, .ref (a 0)), (1, .int p0), (2, .int p1), (3, .int p2), (4, .int p3), (5, .int v1), (6, .int v3)]) hx hb dX4_access_117 hl (by decide) rfl (fun ls hl => ?_)
          refine lv_aload_n hx hb dX4_access_119 rfl (lv_at hl 3 rfl) ?_
          refine lv_iload_n hx hb dX4_access_120 rfl (lv_at hl 5 rfl) ?_
          refine lv_lload hx hb dX4_access_121 (lv_at hl 0 rfl) ?_
          refine lv_ldc2 hx hb hown (hts (.constantLong RX4 223 (4)) (by decide +kernel)) dX4_access_123 ?_
          refine lv_ladd hx hb dX4_access_126 ?_
          refine g_i (va_runV (As := [.int p1, .long (v59 + (4 : Int64))]) (rest := []) ⟨hx, hb, hml, hown, hts⟩ (c_X4_done l yy a u p1 (v59 + (4 : Int64)) (h0) G H.size) (cwV 2 hts gX4_access_X4_done rfl rfl rfl (by decide +kernel) ⟨Nat.le_of_ble_eq_true rfl, Nat.le_of_ble_eq_true rfl⟩) (g_preV eTrue_bl hK hE hP hD hS hA 0 rfl rfl) rfl rfl hl.1 rfl (lv_room (Nat.le_of_ble_eq_true rfl)) dX4_access_127 ⟨Nat.le_of_ble_eq_true rfl, Nat.le_of_ble_eq_true rfl⟩) hD hS hA (fun H locs hP hD hS => ?_)
          refine lv_topi (fun v60 ev60 => ?_)
          obtain ⟨u61, eu61⟩ : ∃ z, z = (f_X4_done u p1 (v59 + (4 : Int64))).2 := ⟨_, rfl⟩
          have hP : va_P G vwCl (wM yy a u61) H := by rw [eu61]; exact hP
          have hD : va_D A (wM yy a u61) := by rw [eu61]; exact hD
          refine lv_pop hx hb dX4_access_130 rfl ?_
          refine lv_aload_n hx hb dX4_access_131 rfl (lv_at hl 3 rfl) ?_
          refine lv_lload hx hb dX4_access_132 (lv_at hl 1 rfl) ?_
          refine lv_ldc2 hx hb hown (hts (.constantLong RX4 225 (-4)) (by decide +kernel)) dX4_access_134 ?_
          refine lv_land hx hb dX4_access_137 ?_
          refine va_put (D := G) (ci := 2) (v := .long (v18 &&& (-4 : Int64))) (ty := .long) (C := RX4) (T := TX4) (N := 17) hx hb hts iw_X4_access_X4 tyX4 tyX4_ok nmX4 hown hK hP hD hS 0 rfl rfl 8 (by decide) (hts (.fieldLink RX4 162 "MixBenchModel" "pc" "J") (by decide +kernel)) (fun _ h9 => h9) rfl (by decide +kernel) rfl rfl (Nat.le_of_ble_eq_true rfl) dX4_access_138 (fun H locs hP hD hS => ?_)
          obtain ⟨u62, eu62⟩ : ∃ z, z = sm_pc u61 (v18 &&& (-4 : Int64)) := ⟨_, rfl⟩
          have hP : va_P G vwCl (wM yy a u62) H := by rw [eu62]; exact hP
          have hD : va_D A (wM yy a u62) := by rw [eu62]; exact hD
          refine lv_iconst (v := 0) hx hb dX4_access_141 (by decide) ?_
          exact g_iret (by have eu62 := eu62.symm; subst eu62; have eu61 := eu61.symm; subst eu61; have ev60 := ev60.symm; subst ev60; have ev59 := ev59.symm; subst ev59; have ev18 := ev18.symm; subst ev18; have ev17 := ev17.symm; subst ev17; have ev8 := ev8.symm; subst ev8; have ez9 := ez9.symm; subst ez9; have ev3 := ev3.symm; subst ev3; have ez4 := ez4.symm; subst ez4; have ev1 := ev1.symm; subst ev1; exact (if_neg c16).trans ((if_pos c19).trans (rfl))) hx hb hr hP hD hS hlocks dX4_access_142
      · refine lv_iload hx hb dX4_access_74 (lv_at hl 0 rfl) ?_
        refine lv_if_ne (tgt := 89) hx hb dX4_access_76 (by decide) (fun c63 => ?_) (fun c63 => ?_)
        · refine lv_aload_n hx hb dX4_access_89 rfl (lv_at hl 1 rfl) ?_
          refine va_get (D := G) (ci := 2) (v := .ref (a 1)) (C := RX4) (T := TX4) (N := 17) hx hb hts iw_X4_access_X4 hown hK hP 0 rfl rfl 1 (by decide) (hts (.fieldLink RX4 7 "MixBenchModel" "g" "[J") (by decide +kernel)) (fun _ h9 => h9) rfl dX4_access_90 ?_
          refine lv_iload_n hx hb dX4_access_93 rfl (lv_at hl 4 rfl) ?_
          refine va_lald hx hb hK hP 1 0 rfl rfl h1 dX4_access_94 ?_
          refine lv_aload_n hx hb dX4_access_95 rfl (lv_at hl 1 rfl) ?_
          refine lv_iload_n hx hb dX4_access_96 rfl (lv_at hl 2 rfl) ?_
          refine lv_iload hx hb dX4_access_97 (lv_at hl 5 rfl) ?_
          refine g_l (va_runV (As := [.int p0, .int p3]) (rest := [.long (m_g u p2.toNatClampNeg)]) ⟨hx, hb, hml, hown, hts⟩ (c_X4_number l yy a u p0 p3 (h2) G H.size) (cwV 2 hts gX4_access_X4_number rfl rfl rfl (by decide +kernel) ⟨Nat.le_of_ble_eq_true rfl, Nat.le_of_ble_eq_true rfl⟩) (g_preV eTrue_bl hK hE hP hD hS hA 0 rfl rfl) rfl rfl hl.1 rfl (lv_room (Nat.le_of_ble_eq_true rfl)) dX4_access_99 ⟨Nat.le_of_ble_eq_true rfl, Nat.le_of_ble_eq_true rfl⟩) hD hS hA (fun H locs hP hD hS => ?_)
          have hP : va_P G vwCl (wM yy a u) H := hP
          have hD : va_D A (wM yy a u) := hD
          refine lv_topl (fun v64 ev64 => ?_)
          refine lv_ladd hx hb dX4_access_102 ?_
          refine lv_topl (fun v65 ev65 => ?_)
          refine lv_lstore (lv' := [(8, .long v65), (7, .int v8), (0, .ref (a 0)), (1, .int p0), (2, .int p1), (3, .int p2), (4, .int p3), (5, .int v1), (6, .int v3)]) hx hb dX4_access_103 hl (by decide) rfl (fun ls hl => ?_)
          refine lv_iload hx hb dX4_access_105 (lv_at hl 7 rfl) ?_
          refine lv_sipush (v := 158) hx hb dX4_access_107 (by decide) ?_
          refine lv_icmp_ne (tgt := 143) hx hb dX4_access_110 (by decide) (fun c66 => ?_) (fun c66 => ?_)
          · refine lv_lload hx hb dX4_access_143 (lv_at hl 0 rfl) ?_
            refine p_i (W.runS (As := [.long v65]) (rest := []) ⟨hx, hb, hml, hown, hts⟩ (c_X4_beyond l v65 ) (va_cwS 1 hts gX4_access_X4_beyond rfl rfl rfl (by decide +kernel) ⟨Nat.le_of_ble_eq_true rfl, Nat.le_of_ble_eq_true rfl⟩) p_preT rfl rfl hl.1 rfl (lv_room (Nat.le_of_ble_eq_true rfl)) dX4_access_145 ⟨Nat.le_of_ble_eq_true rfl, Nat.le_of_ble_eq_true rfl⟩) ?_
            refine lv_if_eq (tgt := 153) hx hb dX4_access_148 (by decide) (fun c67 => ?_) (fun c67 => ?_)
            · refine lv_aload_n hx hb dX4_access_153 rfl (lv_at hl 2 rfl) ?_
              refine lv_dup hx hb dX4_access_154 rfl ?_
              refine va_get (D := G) (ci := 2) (v := .long (m_me u)) (C := RX4) (T := TX4) (N := 17) hx hb hts iw_X4_access_X4 hown hK hP 0 rfl rfl 10 (by decide) (hts (.fieldLink RX4 280 "MixBenchModel" "mems" "J") (by decide +kernel)) (fun _ h9 => h9) rfl dX4_access_155 ?_
              refine lv_lconst (v := 1) hx hb dX4_access_158 (by decide) ?_
              refine lv_ladd hx hb dX4_access_159 ?_
              refine va_put (D := G) (ci := 2) (v := .long ((m_me u) + (1 : Int64))) (ty := .long) (C := RX4) (T := TX4) (N := 17) hx hb hts iw_X4_access_X4 tyX4 tyX4_ok nmX4 hown hK hP hD hS 0 rfl rfl 10 (by decide) (hts (.fieldLink RX4 280 "MixBenchModel" "mems" "J") (by decide +kernel)) (fun _ h9 => h9) rfl (by decide +kernel) rfl rfl (Nat.le_of_ble_eq_true rfl) dX4_access_160 (fun H locs hP hD hS => ?_)
              obtain ⟨u68, eu68⟩ : ∃ z, z = sm_me u ((m_me u) + (1 : Int64)) := ⟨_, rfl⟩
              have hP : va_P G vwCl (wM yy a u68) H := by rw [eu68]; exact hP
              have hD : va_D A (wM yy a u68) := by rw [eu68]; exact hD
              refine lv_iload hx hb dX4_access_163 (lv_at hl 7 rfl) ?_
              refine lv_sipush (v := 146) hx hb dX4_access_165 (by decide) ?_
              obtain ⟨z71, ez71⟩ : ∃ q : Int32, q = (if v1 = (146 : Int32) then (4 : Int32) else if v1 = (178 : Int32) then (4 : Int32) else if v1 = (180 : Int32) then (8 : Int32) else jshl (1 : Int32) ((jshr v1 (2 : Int32)) &&& (3 : Int32))) := ⟨_, rfl⟩
              have k72 : ∀ (v70 : Int32), v70 = z71 → ∀ (H : Heap) (locs : List Loc), va_P G vwCl (wM yy a u68) H → va_D A (wM yy a u68) → va_S A s.heap H locs → ∀ ls : Array Slot, lv_has ls 13 [(0, .ref (a 0)), (1, .int p0), (2, .int p1), (3, .int p2), (4, .int p3), (5, .int v1), (6, .int v3), (7, .int v8), (8, .long v65)] → W p l e rm_X4_access s m args below meth c H locs 0 0 (MQ below (gQi (wM yy a) (f_X4_access u p0 p1 p2 p3) G A) args s 0 0 A) (F0 m 204 ls [.int v70]) := by
                intro v70 jz71 H locs hP hD hS ls hl
                have ev70 : v70 = z71 := jz71
                refine lv_istore (lv' := [(10, .int v70), (0, .ref (a 0)), (1, .int p0), (2, .int p1), (3, .int p2), (4, .int p3), (5, .int v1), (6, .int v3), (7, .int v8), (8, .long v65)]) hx hb dX4_access_204 hl (by decide) rfl (fun ls hl => ?_)
                refine lv_iload hx hb dX4_access_206 (lv_at hl 6 rfl) ?_
                refine lv_sipush (v := 146) hx hb dX4_access_208 (by decide) ?_
                refine lv_icmp_ne (tgt := 230) hx hb dX4_access_211 (by decide) (fun c75 => ?_) (fun c75 => ?_)
                · refine lv_iload hx hb dX4_access_230 (lv_at hl 7 rfl) ?_
                  refine lv_if_eq (tgt := 272) hx hb dX4_access_232 (by decide) (fun c76 => ?_) (fun c76 => ?_)
                  · refine lv_iload hx hb dX4_access_272 (lv_at hl 6 rfl) ?_
                    refine lv_sipush (v := 178) hx hb dX4_access_274 (by decide) ?_
                    obtain ⟨z79, ez79⟩ : ∃ q : Int64, q = (if v1 = (178 : Int32) then jlushr (m_g u68 p1.toNatClampNeg) (32 : Int32) else if v1 = (180 : Int32) then p1.toInt64 else m_g u68 p1.toNatClampNeg) := ⟨_, rfl⟩
                    have k80 : ∀ (v78 : Int64), v78 = z79 → ∀ (H : Heap) (locs : List Loc), va_P G vwCl (wM yy a u68) H → va_D A (wM yy a u68) → va_S A s.heap H locs → ∀ ls : Array Slot, lv_has ls 13 [(0, .ref (a 0)), (1, .int p0), (2, .int p1), (3, .int p2), (4, .int p3), (5, .int v1), (6, .int v3), (7, .int v8), (8, .long v65), (10, .int v70)] → W p l e rm_X4_access s m args below meth c H locs 0 0 (MQ below (gQi (wM yy a) (f_X4_access u p0 p1 p2 p3) G A) args s 0 0 A) (F0 m 311 ls [.long v78]) := by
                      intro v78 jz79 H locs hP hD hS ls hl
                      have ev78 : v78 = z79 := jz79
                      refine lv_lstore (lv' := [(11, .long v78), (0, .ref (a 0)), (1, .int p0), (2, .int p1), (3, .int p2), (4, .int p3), (5, .int v1), (6, .int v3), (7, .int v8), (8, .long v65), (10, .int v70)]) hx hb dX4_access_311 hl (by decide) rfl (fun ls hl => ?_)
                      refine lv_iload hx hb dX4_access_313 (lv_at hl 6 rfl) ?_
                      refine lv_sipush (v := 176) hx hb dX4_access_315 (by decide) ?_
                      obtain ⟨z84, ez84⟩ : ∃ q : MS, q = (if (176 : Int32) ≤ v1 then u68 else if (v1 &&& (2 : Int32)) = (0 : Int32) then let z89 : Int32 := (if (f_X4_signed v78 v70) = v78 then (0 : Int32) else (1 : Int32)); let v88 : Int32 := z89; let u91 : MS := f_X4_over u68 v88; u91 else u68) := ⟨_, rfl⟩
                      have k85 : ∀ (u83 : MS), u83 = z84 → ∀ (H : Heap) (locs : List Loc), va_P G vwCl (wM yy a u83) H → va_D A (wM yy a u83) → va_S A s.heap H locs → ∀ ls : Array Slot, lv_has ls 13 [(0, .ref (a 0)), (1, .int p0), (2, .int p1), (3, .int p2), (4, .int p3), (5, .int v1), (6, .int v3), (7, .int v8), (8, .long v65), (10, .int v70), (11, .long v78)] → W p l e rm_X4_access s m args below meth c H locs 0 0 (MQ below (gQi (wM yy a) (f_X4_access u p0 p1 p2 p3) G A) args s 0 0 A) (F0 m 350 ls []) := by
                        intro u83 jz84 H locs hP hD hS ls hl
                        have eu83 : u83 = z84 := jz84
                        refine lv_aload_n hx hb dX4_access_350 rfl (lv_at hl 0 rfl) ?_
                        refine lv_lload hx hb dX4_access_351 (lv_at hl 8 rfl) ?_
                        refine lv_iload hx hb dX4_access_353 (lv_at hl 9 rfl) ?_
                        refine lv_lload hx hb dX4_access_355 (lv_at hl 10 rfl) ?_
                        refine g_v (va_runV (As := [.long v65, .int v70, .long v78]) (rest := []) ⟨hx, hb, hml, hown, hts⟩ (c_X4_m_ l yy a u83 v65 v70 v78 (c67) (by have eu83 := eu83.symm; subst eu83; have ez84 := ez84.symm; subst ez84; have ev78 := ev78.symm; subst ev78; have ez79 := ez79.symm; subst ez79; have ev70 := ev70.symm; subst ev70; have ez71 := ez71.symm; subst ez71; have eu68 := eu68.symm; subst eu68; have ev65 := ev65.symm; subst ev65; have ev64 := ev64.symm; subst ev64; have ev8 := ev8.symm; subst ev8; have ez9 := ez9.symm; subst ez9; have ev3 := ev3.symm; subst ev3; have ez4 := ez4.symm; subst ez4; have ev1 := ev1.symm; subst ev1; repeat (first | exact sz_op _ | exact Or.inr (Or.inr (Or.inl rfl)) | exact Or.inr (Or.inr (Or.inr rfl)) | refine or_i (P := fun q : Int32 => q = 1 ∨ q = 2 ∨ q = 4 ∨ q = 8) ?_ ?_)) G H.size) (cwV 3 hts gX4_access_X4_m_ rfl rfl rfl (by decide +kernel) ⟨Nat.le_of_ble_eq_true rfl, Nat.le_of_ble_eq_true rfl⟩) (g_preV eTrue_bl hK hE hP hD hS hA 0 rfl rfl) rfl rfl hl.1 rfl (lv_room (Nat.le_of_ble_eq_true rfl)) dX4_access_357 ⟨Nat.le_of_ble_eq_true rfl, Nat.le_of_ble_eq_true rfl⟩) hD hS hA (fun H locs hP hD hS => ?_)
                        obtain ⟨u92, eu92⟩ : ∃ z, z = f_X4_m_ u83 v65 v70 v78 := ⟨_, rfl⟩
                        have hP : va_P G vwCl (wM yy a u92) H := by rw [eu92]; exact hP
                        have hD : va_D A (wM yy a u92) := by rw [eu92]; exact hD
                        refine lv_aload_n hx hb dX4_access_360 rfl (lv_at hl 0 rfl) ?_
                        refine g_i (va_runV (As := []) (rest := []) ⟨hx, hb, hml, hown, hts⟩ (c_X4_on l yy a u92   G H.size) (cwV 0 hts gX4_access_X4_on rfl rfl rfl (by decide +kernel) ⟨Nat.le_of_ble_eq_true rfl, Nat.le_of_ble_eq_true rfl⟩) (g_preV eTrue_bl hK hE hP hD hS hA 0 rfl rfl) rfl rfl hl.1 rfl (lv_room (Nat.le_of_ble_eq_true rfl)) dX4_access_361 ⟨Nat.le_of_ble_eq_true rfl, Nat.le_of_ble_eq_true rfl⟩) hD hS hA (fun H locs hP hD hS => ?_)
                        refine lv_topi (fun v93 ev93 => ?_)
                        obtain ⟨u94, eu94⟩ : ∃ z, z = (f_X4_on u92 ).2 := ⟨_, rfl⟩
                        have hP : va_P G vwCl (wM yy a u94) H := by rw [eu94]; exact hP
                        have hD : va_D A (wM yy a u94) := by rw [eu94]; exact hD
                        exact g_iret (by have eu94 := eu94.symm; subst eu94; have ev93 := ev93.symm; subst ev93; have eu92 := eu92.symm; subst eu92; have eu83 := eu83.symm; subst eu83; have ez84 := ez84.symm; subst ez84; have ev78 := ev78.symm; subst ev78; have ez79 := ez79.symm; subst ez79; have ev70 := ev70.symm; subst ev70; have ez71 := ez71.symm; subst ez71; have eu68 := eu68.symm; subst eu68; have ev65 := ev65.symm; subst ev65; have ev64 := ev64.symm; subst ev64; have ev8 := ev8.symm; subst ev8; have ez9 := ez9.symm; subst ez9; have ev3 := ev3.symm; subst ev3; have ez4 := ez4.symm; subst ez4; have ev1 := ev1.symm; subst ev1; exact (if_pos c16).trans ((if_neg c63).trans ((if_neg c66).trans ((if_pos c67).trans ((if_neg c75).trans ((if_pos c76).trans (rfl))))))) hx hb hr hP hD hS hlocks dX4_access_364
                      refine lv_icmp_ge (tgt := 350) hx hb dX4_access_318 (by decide) (fun c82 => ?_) (fun c82 => ?_)
                      · exact k85 u68 (ez84.trans (by exact (if_pos c82).trans (rfl))).symm _ _ hP hD hS ls (lv_sub hl [1, 2, 3, 4, 5, 6, 7, 8, 9, 10, 0] rfl)
                      · refine lv_iload hx hb dX4_access_321 (lv_at hl 6 rfl) ?_
                        refine lv_iconst (v := 2) hx hb dX4_access_323 (by decide) ?_
                        refine lv_iand hx hb dX4_access_324 ?_
                        refine lv_if_ne (tgt := 350) hx hb dX4_access_325 (by decide) (fun c86 => ?_) (fun c86 => ?_)
                        · exact k85 u68 (ez84.trans (by exact (if_neg c82).trans ((if_neg c86).trans (rfl)))).symm _ _ hP hD hS ls (lv_sub hl [1, 2, 3, 4, 5, 6, 7, 8, 9, 10, 0] rfl)
                        · refine lv_aload_n hx hb dX4_access_328 rfl (lv_at hl 1 rfl) ?_
                          refine lv_lload hx hb dX4_access_329 (lv_at hl 0 rfl) ?_
                          refine lv_iload hx hb dX4_access_331 (lv_at hl 10 rfl) ?_
                          refine p_l (W.runS (As := [.long v78, .int v70]) (rest := [.ref (a 0)]) ⟨hx, hb, hml, hown, hts⟩ (c_X4_signed l v78 v70 ) (va_cwS 2 hts gX4_access_X4_signed rfl rfl rfl (by decide +kernel) ⟨Nat.le_of_ble_eq_true rfl, Nat.le_of_ble_eq_true rfl⟩) p_preT rfl rfl hl.1 rfl (lv_room (Nat.le_of_ble_eq_true rfl)) dX4_access_333 ⟨Nat.le_of_ble_eq_true rfl, Nat.le_of_ble_eq_true rfl⟩) ?_
                          refine lv_lload hx hb dX4_access_336 (lv_at hl 0 rfl) ?_
                          obtain ⟨z89, ez89⟩ : ∃ q : Int32, q = (if (f_X4_signed v78 v70) = v78 then (0 : Int32) else (1 : Int32)) := ⟨_, rfl⟩
                          have k90 : ∀ (v88 : Int32), v88 = z89 → ∀ (H : Heap) (locs : List Loc), va_P G vwCl (wM yy a u68) H → va_D A (wM yy a u68) → va_S A s.heap H locs → ∀ ls : Array Slot, lv_has ls 13 [(0, .ref (a 0)), (1, .int p0), (2, .int p1), (3, .int p2), (4, .int p3), (5, .int v1), (6, .int v3), (7, .int v8), (8, .long v65), (10, .int v70), (11, .long v78)] → W p l e rm_X4_access s m args below meth c H locs 0 0 (MQ below (gQi (wM yy a) (f_X4_access u p0 p1 p2 p3) G A) args s 0 0 A) (F0 m 347 ls [.int v88, .ref (a 0)]) := by
                            intro v88 jz89 H locs hP hD hS ls hl
                            have ev88 : v88 = z89 := jz89
                            refine g_v (va_runV (As := [.int v88]) (rest := []) ⟨hx, hb, hml, hown, hts⟩ (c_X4_over l yy a u68 v88  G H.size) (cwV 1 hts gX4_access_X4_over rfl rfl rfl (by decide +kernel) ⟨Nat.le_of_ble_eq_true rfl, Nat.le_of_ble_eq_true rfl⟩) (g_preV eTrue_bl hK hE hP hD hS hA 0 rfl rfl) rfl rfl hl.1 rfl (lv_room (Nat.le_of_ble_eq_true rfl)) dX4_access_347 ⟨Nat.le_of_ble_eq_true rfl, Nat.le_of_ble_eq_true rfl⟩) hD hS hA (fun H locs hP hD hS => ?_)
                            obtain ⟨u91, eu91⟩ : ∃ z, z = f_X4_over u68 v88 := ⟨_, rfl⟩
                            have hP : va_P G vwCl (wM yy a u91) H := by rw [eu91]; exact hP
                            have hD : va_D A (wM yy a u91) := by rw [eu91]; exact hD
                            exact k85 u91 (ez84.trans (by have eu91 := eu91.symm; subst eu91; have ev88 := ev88.symm; subst ev88; have ez89 := ez89.symm; subst ez89; exact (if_neg c82).trans ((if_pos c86).trans (rfl)))).symm _ _ hP hD hS ls (lv_sub hl [0, 1, 2, 3, 4, 5, 6, 7, 8, 9, 10] rfl)
                          refine lc_eq (tgt := 346) hx hb dX4_access_338 dX4_access_339 (by decide) (fun c87 => ?_) (fun c87 => ?_)
                          · refine lv_iconst (v := 0) hx hb dX4_access_346 (by decide) ?_
                            exact k90 (0 : Int32) (ez89.trans (by exact (if_pos c87).trans (rfl))).symm _ _ hP hD hS ls (lv_sub hl [1, 2, 3, 4, 5, 6, 7, 8, 9, 10, 0] rfl)
                          · refine lv_iconst (v := 1) hx hb dX4_access_342 (by decide) ?_
                            refine lv_goto (tgt := 347) hx hb dX4_access_343 (by decide) ?_
                            exact k90 (1 : Int32) (ez89.trans (by exact (if_neg c87).trans (rfl))).symm _ _ hP hD hS ls (lv_sub hl [1, 2, 3, 4, 5, 6, 7, 8, 9, 10, 0] rfl)
                    refine lv_icmp_ne (tgt := 292) hx hb dX4_access_277 (by decide) (fun c77 => ?_) (fun c77 => ?_)
                    · refine lv_iload hx hb dX4_access_292 (lv_at hl 6 rfl) ?_
                      refine lv_sipush (v := 180) hx hb dX4_access_294 (by decide) ?_
                      refine lv_icmp_ne (tgt := 305) hx hb dX4_access_297 (by decide) (fun c81 => ?_) (fun c81 => ?_)
                      · refine lv_aload_n hx hb dX4_access_305 rfl (lv_at hl 1 rfl) ?_
                        refine va_get (D := G) (ci := 2) (v := .ref (a 1)) (C := RX4) (T := TX4) (N := 17) hx hb hts iw_X4_access_X4 hown hK hP 0 rfl rfl 1 (by decide) (hts (.fieldLink RX4 7 "MixBenchModel" "g" "[J") (by decide +kernel)) (fun _ h9 => h9) rfl dX4_access_306 ?_
                        refine lv_iload_n hx hb dX4_access_309 rfl (lv_at hl 3 rfl) ?_
                        refine va_lald hx hb hK hP 1 0 rfl rfl h0 dX4_access_310 ?_
                        exact k80 (m_g u68 p1.toNatClampNeg) (ez79.trans (by exact (if_neg c77).trans ((if_neg c81).trans (rfl)))).symm _ _ hP hD hS ls (lv_sub hl [1, 2, 3, 4, 5, 6, 7, 8, 9, 0] rfl)
                      · refine lv_iload_n hx hb dX4_access_300 rfl (lv_at hl 3 rfl) ?_
                        refine lv_i2l (v := p1.toInt64) hx hb dX4_access_301 rfl ?_
                        refine lv_goto (tgt := 311) hx hb dX4_access_302 (by decide) ?_
                        exact k80 p1.toInt64 (ez79.trans (by exact (if_neg c77).trans ((if_pos c81).trans (rfl)))).symm _ _ hP hD hS ls (lv_sub hl [1, 2, 3, 4, 5, 6, 7, 8, 9, 0] rfl)
                    · refine lv_aload_n hx hb dX4_access_280 rfl (lv_at hl 1 rfl) ?_
                      refine va_get (D := G) (ci := 2) (v := .ref (a 1)) (C := RX4) (T := TX4) (N := 17) hx hb hts iw_X4_access_X4 hown hK hP 0 rfl rfl 1 (by decide) (hts (.fieldLink RX4 7 "MixBenchModel" "g" "[J") (by decide +kernel)) (fun _ h9 => h9) rfl dX4_access_281 ?_
                      refine lv_iload_n hx hb dX4_access_284 rfl (lv_at hl 3 rfl) ?_
                      refine va_lald hx hb hK hP 1 0 rfl rfl h0 dX4_access_285 ?_
                      refine lv_bipush (v := 32) hx hb dX4_access_286 (by decide) ?_
                      refine lv_lushr (v := jlushr (m_g u68 p1.toNatClampNeg) (32 : Int32)) hx hb dX4_access_288 rfl ?_
                      refine lv_goto (tgt := 311) hx hb dX4_access_289 (by decide) ?_
                      exact k80 (jlushr (m_g u68 p1.toNatClampNeg) (32 : Int32)) (ez79.trans (by exact (if_pos c77).trans (rfl))).symm _ _ hP hD hS ls (lv_sub hl [1, 2, 3, 4, 5, 6, 7, 8, 9, 0] rfl)
                  · refine lv_aload_n hx hb dX4_access_235 rfl (lv_at hl 1 rfl) ?_
                    refine lv_iload_n hx hb dX4_access_236 rfl (lv_at hl 3 rfl) ?_
                    refine lv_iload hx hb dX4_access_237 (lv_at hl 6 rfl) ?_
                    refine lv_iconst (v := 2) hx hb dX4_access_239 (by decide) ?_
                    refine lv_iand hx hb dX4_access_240 ?_
                    obtain ⟨z97, ez97⟩ : ∃ q : Int64, q = (if (v1 &&& (2 : Int32)) = (0 : Int32) then let v100 : Int64 := f_X4_m u68 v65 v70; f_X4_signed v100 v70 else let v99 : Int64 := f_X4_m u68 v65 v70; v99) := ⟨_, rfl⟩
                    have k98 : ∀ (v96 : Int64), v96 = z97 → ∀ (H : Heap) (locs : List Loc), va_P G vwCl (wM yy a u68) H → va_D A (wM yy a u68) → va_S A s.heap H locs → ∀ ls : Array Slot, lv_has ls 13 [(0, .ref (a 0)), (1, .int p0), (2, .int p1), (3, .int p2), (4, .int p3), (5, .int v1), (6, .int v3), (7, .int v8), (8, .long v65), (10, .int v70)] → W p l e rm_X4_access s m args below meth c H locs 0 0 (MQ below (gQi (wM yy a) (f_X4_access u p0 p1 p2 p3) G A) args s 0 0 A) (F0 m 268 ls [.long v96, .int p1, .ref (a 0)]) := by
                      intro v96 jz97 H locs hP hD hS ls hl
                      have ev96 : v96 = z97 := jz97
                      refine g_i (va_runV (As := [.int p1, .long v96]) (rest := []) ⟨hx, hb, hml, hown, hts⟩ (c_X4_done l yy a u68 p1 v96 (h0) G H.size) (cwV 2 hts gX4_access_X4_done rfl rfl rfl (by decide +kernel) ⟨Nat.le_of_ble_eq_true rfl, Nat.le_of_ble_eq_true rfl⟩) (g_preV eTrue_bl hK hE hP hD hS hA 0 rfl rfl) rfl rfl hl.1 rfl (lv_room (Nat.le_of_ble_eq_true rfl)) dX4_access_268 ⟨Nat.le_of_ble_eq_true rfl, Nat.le_of_ble_eq_true rfl⟩) hD hS hA (fun H locs hP hD hS => ?_)
                      refine lv_topi (fun v101 ev101 => ?_)
                      obtain ⟨u102, eu102⟩ : ∃ z, z = (f_X4_done u68 p1 v96).2 := ⟨_, rfl⟩
                      have hP : va_P G vwCl (wM yy a u102) H := by rw [eu102]; exact hP
                      have hD : va_D A (wM yy a u102) := by rw [eu102]; exact hD
                      exact g_iret (by have eu102 := eu102.symm; subst eu102; have ev101 := ev101.symm; subst ev101; have ev96 := ev96.symm; subst ev96; have ez97 := ez97.symm; subst ez97; have ev70 := ev70.symm; subst ev70; have ez71 := ez71.symm; subst ez71; have eu68 := eu68.symm; subst eu68; have ev65 := ev65.symm; subst ev65; have ev64 := ev64.symm; subst ev64; have ev8 := ev8.symm; subst ev8; have ez9 := ez9.symm; subst ez9; have ev3 := ev3.symm; subst ev3; have ez4 := ez4.symm; subst ez4; have ev1 := ev1.symm; subst ev1; exact (if_pos c16).trans ((if_neg c63).trans ((if_neg c66).trans ((if_pos c67).trans ((if_neg c75).trans ((if_neg c76).trans (rfl))))))) hx hb hr hP hD hS hlocks dX4_access_271
                    refine lv_if_ne (tgt := 260) hx hb dX4_access_241 (by decide) (fun c95 => ?_) (fun c95 => ?_)
                    · refine lv_aload_n hx hb dX4_access_260 rfl (lv_at hl 1 rfl) ?_
                      refine lv_lload hx hb dX4_access_261 (lv_at hl 9 rfl) ?_
                      refine lv_iload hx hb dX4_access_263 (lv_at hl 0 rfl) ?_
                      refine g_l (va_runV (As := [.long v65, .int v70]) (rest := [.int p1, .ref (a 0)]) ⟨hx, hb, hml, hown, hts⟩ (c_X4_m l yy a u68 v65 v70 (c67) (by have ev70 := ev70.symm; subst ev70; have ez71 := ez71.symm; subst ez71; have eu68 := eu68.symm; subst eu68; have ev65 := ev65.symm; subst ev65; have ev64 := ev64.symm; subst ev64; have ev8 := ev8.symm; subst ev8; have ez9 := ez9.symm; subst ez9; have ev3 := ev3.symm; subst ev3; have ez4 := ez4.symm; subst ez4; have ev1 := ev1.symm; subst ev1; repeat (first | exact sz_op _ | exact Or.inr (Or.inr (Or.inl rfl)) | exact Or.inr (Or.inr (Or.inr rfl)) | refine or_i (P := fun q : Int32 => q = 1 ∨ q = 2 ∨ q = 4 ∨ q = 8) ?_ ?_)) G H.size) (cwV 2 hts gX4_access_X4_m rfl rfl rfl (by decide +kernel) ⟨Nat.le_of_ble_eq_true rfl, Nat.le_of_ble_eq_true rfl⟩) (g_preV eTrue_bl hK hE hP hD hS hA 0 rfl rfl) rfl rfl hl.1 rfl (lv_room (Nat.le_of_ble_eq_true rfl)) dX4_access_265 ⟨Nat.le_of_ble_eq_true rfl, Nat.le_of_ble_eq_true rfl⟩) hD hS hA (fun H locs hP hD hS => ?_)
                      have hP : va_P G vwCl (wM yy a u68) H := hP
                      have hD : va_D A (wM yy a u68) := hD
                      refine lv_topl (fun v99 ev99 => ?_)
                      exact k98 v99 (ez97.trans (by have ev99 := ev99.symm; subst ev99; exact (if_neg c95).trans (rfl))).symm _ _ hP hD hS ls (lv_sub hl [1, 2, 3, 4, 5, 6, 7, 8, 9, 0] rfl)
                    · refine lv_aload_n hx hb dX4_access_244 rfl (lv_at hl 1 rfl) ?_
                      refine lv_lload hx hb dX4_access_245 (lv_at hl 9 rfl) ?_
                      refine lv_iload hx hb dX4_access_247 (lv_at hl 0 rfl) ?_
                      refine g_l (va_runV (As := [.long v65, .int v70]) (rest := [.int p1, .ref (a 0)]) ⟨hx, hb, hml, hown, hts⟩ (c_X4_m l yy a u68 v65 v70 (c67) (by have ev70 := ev70.symm; subst ev70; have ez71 := ez71.symm; subst ez71; have eu68 := eu68.symm; subst eu68; have ev65 := ev65.symm; subst ev65; have ev64 := ev64.symm; subst ev64; have ev8 := ev8.symm; subst ev8; have ez9 := ez9.symm; subst ez9; have ev3 := ev3.symm; subst ev3; have ez4 := ez4.symm; subst ez4; have ev1 := ev1.symm; subst ev1; repeat (first | exact sz_op _ | exact Or.inr (Or.inr (Or.inl rfl)) | exact Or.inr (Or.inr (Or.inr rfl)) | refine or_i (P := fun q : Int32 => q = 1 ∨ q = 2 ∨ q = 4 ∨ q = 8) ?_ ?_)) G H.size) (cwV 2 hts gX4_access_X4_m rfl rfl rfl (by decide +kernel) ⟨Nat.le_of_ble_eq_true rfl, Nat.le_of_ble_eq_true rfl⟩) (g_preV eTrue_bl hK hE hP hD hS hA 0 rfl rfl) rfl rfl hl.1 rfl (lv_room (Nat.le_of_ble_eq_true rfl)) dX4_access_249 ⟨Nat.le_of_ble_eq_true rfl, Nat.le_of_ble_eq_true rfl⟩) hD hS hA (fun H locs hP hD hS => ?_)
                      have hP : va_P G vwCl (wM yy a u68) H := hP
                      have hD : va_D A (wM yy a u68) := hD
                      refine lv_topl (fun v100 ev100 => ?_)
                      refine lv_iload hx hb dX4_access_252 (lv_at hl 0 rfl) ?_
                      refine p_l (W.runS (As := [.long v100, .int v70]) (rest := [.int p1, .ref (a 0)]) ⟨hx, hb, hml, hown, hts⟩ (c_X4_signed l v100 v70 ) (va_cwS 2 hts gX4_access_X4_signed rfl rfl rfl (by decide +kernel) ⟨Nat.le_of_ble_eq_true rfl, Nat.le_of_ble_eq_true rfl⟩) p_preT rfl rfl hl.1 rfl (lv_room (Nat.le_of_ble_eq_true rfl)) dX4_access_254 ⟨Nat.le_of_ble_eq_true rfl, Nat.le_of_ble_eq_true rfl⟩) ?_
                      refine lv_goto (tgt := 268) hx hb dX4_access_257 (by decide) ?_
                      exact k98 (f_X4_signed v100 v70) (ez97.trans (by have ev100 := ev100.symm; subst ev100; exact (if_pos c95).trans (rfl))).symm _ _ hP hD hS ls (lv_sub hl [1, 2, 3, 4, 5, 6, 7, 8, 9, 0] rfl)
                · refine lv_aload_n hx hb dX4_access_214 rfl (lv_at hl 1 rfl) ?_
                  refine lv_iload_n hx hb dX4_access_215 rfl (lv_at hl 3 rfl) ?_
                  refine lv_aload_n hx hb dX4_access_216 rfl (lv_at hl 1 rfl) ?_
                  refine lv_lload hx hb dX4_access_217 (lv_at hl 9 rfl) ?_
                  refine lv_iconst (v := 4) hx hb dX4_access_219 (by decide) ?_
                  refine g_l (va_runV (As := [.long v65, .int (4 : Int32)]) (rest := [.int p1, .ref (a 0)]) ⟨hx, hb, hml, hown, hts⟩ (c_X4_m l yy a u68 v65 (4 : Int32) (c67) (by decide) G H.size) (cwV 2 hts gX4_access_X4_m rfl rfl rfl (by decide +kernel) ⟨Nat.le_of_ble_eq_true rfl, Nat.le_of_ble_eq_true rfl⟩) (g_preV eTrue_bl hK hE hP hD hS hA 0 rfl rfl) rfl rfl hl.1 rfl (lv_room (Nat.le_of_ble_eq_true rfl)) dX4_access_220 ⟨Nat.le_of_ble_eq_true rfl, Nat.le_of_ble_eq_true rfl⟩) hD hS hA (fun H locs hP hD hS => ?_)
                  have hP : va_P G vwCl (wM yy a u68) H := hP
                  have hD : va_D A (wM yy a u68) := hD
                  refine lv_topl (fun v103 ev103 => ?_)
                  refine lv_bipush (v := 32) hx hb dX4_access_223 (by decide) ?_
                  refine lv_lshl (v := jlshl v103 (32 : Int32)) hx hb dX4_access_225 rfl ?_
                  refine g_i (va_runV (As := [.int p1, .long (jlshl v103 (32 : Int32))]) (rest := []) ⟨hx, hb, hml, hown, hts⟩ (c_X4_done l yy a u68 p1 (jlshl v103 (32 : Int32)) (h0) G H.size) (cwV 2 hts gX4_access_X4_done rfl rfl rfl (by decide +kernel) ⟨Nat.le_of_ble_eq_true rfl, Nat.le_of_ble_eq_true rfl⟩) (g_preV eTrue_bl hK hE hP hD hS hA 0 rfl rfl) rfl rfl hl.1 rfl (lv_room (Nat.le_of_ble_eq_true rfl)) dX4_access_226 ⟨Nat.le_of_ble_eq_true rfl, Nat.le_of_ble_eq_true rfl⟩) hD hS hA (fun H locs hP hD hS => ?_)
                  refine lv_topi (fun v104 ev104 => ?_)
                  obtain ⟨u105, eu105⟩ : ∃ z, z = (f_X4_done u68 p1 (jlshl v103 (32 : Int32))).2 := ⟨_, rfl⟩
                  have hP : va_P G vwCl (wM yy a u105) H := by rw [eu105]; exact hP
                  have hD : va_D A (wM yy a u105) := by rw [eu105]; exact hD
                  exact g_iret (by have eu105 := eu105.symm; subst eu105; have ev104 := ev104.symm; subst ev104; have ev103 := ev103.symm; subst ev103; have ev70 := ev70.symm; subst ev70; have ez71 := ez71.symm; subst ez71; have eu68 := eu68.symm; subst eu68; have ev65 := ev65.symm; subst ev65; have ev64 := ev64.symm; subst ev64; have ev8 := ev8.symm; subst ev8; have ez9 := ez9.symm; subst ez9; have ev3 := ev3.symm; subst ev3; have ez4 := ez4.symm; subst ez4; have ev1 := ev1.symm; subst ev1; exact (if_pos c16).trans ((if_neg c63).trans ((if_neg c66).trans ((if_pos c67).trans ((if_pos c75).trans (rfl)))))) hx hb hr hP hD hS hlocks dX4_access_229
              refine lv_icmp_eq (tgt := 179) hx hb dX4_access_168 (by decide) (fun c69 => ?_) (fun c69 => ?_)
              · refine lv_iconst (v := 4) hx hb dX4_access_179 (by decide) ?_
                refine lv_goto (tgt := 204) hx hb dX4_access_180 (by decide) ?_
                exact k72 (4 : Int32) (ez71.trans (by exact (if_pos c69).trans (rfl))).symm _ _ hP hD hS ls (lv_sub hl [2, 3, 4, 5, 6, 7, 8, 1, 0] rfl)
              · refine lv_iload hx hb dX4_access_171 (lv_at hl 7 rfl) ?_
                refine lv_sipush (v := 178) hx hb dX4_access_173 (by decide) ?_
                refine lv_icmp_ne (tgt := 183) hx hb dX4_access_176 (by decide) (fun c73 => ?_) (fun c73 => ?_)
                · refine lv_iload hx hb dX4_access_183 (lv_at hl 7 rfl) ?_
                  refine lv_sipush (v := 180) hx hb dX4_access_185 (by decide) ?_
                  refine lv_icmp_ne (tgt := 196) hx hb dX4_access_188 (by decide) (fun c74 => ?_) (fun c74 => ?_)
                  · refine lv_iconst (v := 1) hx hb dX4_access_196 (by decide) ?_
                    refine lv_iload hx hb dX4_access_197 (lv_at hl 7 rfl) ?_
                    refine lv_iconst (v := 2) hx hb dX4_access_199 (by decide) ?_
                    refine lv_ishr hx hb dX4_access_200 ?_
                    refine lv_iconst (v := 3) hx hb dX4_access_201 (by decide) ?_
                    refine lv_iand hx hb dX4_access_202 ?_
                    refine lv_ishl hx hb dX4_access_203 ?_
                    exact k72 (jshl (1 : Int32) ((jshr v1 (2 : Int32)) &&& (3 : Int32))) (ez71.trans (by exact (if_neg c69).trans ((if_neg c73).trans ((if_neg c74).trans (rfl))))).symm _ _ hP hD hS ls (lv_sub hl [2, 3, 4, 5, 6, 7, 8, 1, 0] rfl)
                  · refine lv_bipush (v := 8) hx hb dX4_access_191 (by decide) ?_
                    refine lv_goto (tgt := 204) hx hb dX4_access_193 (by decide) ?_
                    exact k72 (8 : Int32) (ez71.trans (by exact (if_neg c69).trans ((if_neg c73).trans ((if_pos c74).trans (rfl))))).symm _ _ hP hD hS ls (lv_sub hl [2, 3, 4, 5, 6, 7, 8, 1, 0] rfl)
                · refine lv_iconst (v := 4) hx hb dX4_access_179 (by decide) ?_
                  refine lv_goto (tgt := 204) hx hb dX4_access_180 (by decide) ?_
                  exact k72 (4 : Int32) (ez71.trans (by exact (if_neg c69).trans ((if_pos c73).trans (rfl)))).symm _ _ hP hD hS ls (lv_sub hl [2, 3, 4, 5, 6, 7, 8, 1, 0] rfl)
            · refine lv_iconst (v := 3) hx hb dX4_access_151 (by decide) ?_
              exact g_iret (by have ev65 := ev65.symm; subst ev65; have ev64 := ev64.symm; subst ev64; have ev8 := ev8.symm; subst ev8; have ez9 := ez9.symm; subst ez9; have ev3 := ev3.symm; subst ev3; have ez4 := ez4.symm; subst ez4; have ev1 := ev1.symm; subst ev1; exact (if_pos c16).trans ((if_neg c63).trans ((if_neg c66).trans ((if_neg c67).trans (rfl))))) hx hb hr hP hD hS hlocks dX4_access_152
          · refine lv_aload_n hx hb dX4_access_113 rfl (lv_at hl 2 rfl) ?_
            refine va_get (D := G) (ci := 2) (v := .long (m_pc u)) (C := RX4) (T := TX4) (N := 17) hx hb hts iw_X4_access_X4 hown hK hP 0 rfl rfl 8 (by decide) (hts (.fieldLink RX4 162 "MixBenchModel" "pc" "J") (by decide +kernel)) (fun _ h9 => h9) rfl dX4_access_114 ?_
            refine lv_topl (fun v106 ev106 => ?_)
            refine lv_lstore (lv' := [(10, .long v106), (8, .long v65), (7, .int v8), (0, .ref (a 0)), (1, .int p0), (2, .int p1), (3, .int p2), (4, .int p3), (5, .int v1), (6, .int v3)]) hx hb dX4_access_117 hl (by decide) rfl (fun ls hl => ?_)
            refine lv_aload_n hx hb dX4_access_119 rfl (lv_at hl 3 rfl) ?_
            refine lv_iload_n hx hb dX4_access_120 rfl (lv_at hl 5 rfl) ?_
            refine lv_lload hx hb dX4_access_121 (lv_at hl 0 rfl) ?_
            refine lv_ldc2 hx hb hown (hts (.constantLong RX4 223 (4)) (by decide +kernel)) dX4_access_123 ?_
            refine lv_ladd hx hb dX4_access_126 ?_
            refine g_i (va_runV (As := [.int p1, .long (v106 + (4 : Int64))]) (rest := []) ⟨hx, hb, hml, hown, hts⟩ (c_X4_done l yy a u p1 (v106 + (4 : Int64)) (h0) G H.size) (cwV 2 hts gX4_access_X4_done rfl rfl rfl (by decide +kernel) ⟨Nat.le_of_ble_eq_true rfl, Nat.le_of_ble_eq_true rfl⟩) (g_preV eTrue_bl hK hE hP hD hS hA 0 rfl rfl) rfl rfl hl.1 rfl (lv_room (Nat.le_of_ble_eq_true rfl)) dX4_access_127 ⟨Nat.le_of_ble_eq_true rfl, Nat.le_of_ble_eq_true rfl⟩) hD hS hA (fun H locs hP hD hS => ?_)
            refine lv_topi (fun v107 ev107 => ?_)
            obtain ⟨u108, eu108⟩ : ∃ z, z = (f_X4_done u p1 (v106 + (4 : Int64))).2 := ⟨_, rfl⟩
            have hP : va_P G vwCl (wM yy a u108) H := by rw [eu108]; exact hP
            have hD : va_D A (wM yy a u108) := by rw [eu108]; exact hD
            refine lv_pop hx hb dX4_access_130 rfl ?_
            refine lv_aload_n hx hb dX4_access_131 rfl (lv_at hl 3 rfl) ?_
            refine lv_lload hx hb dX4_access_132 (lv_at hl 1 rfl) ?_
            refine lv_ldc2 hx hb hown (hts (.constantLong RX4 225 (-4)) (by decide +kernel)) dX4_access_134 ?_
            refine lv_land hx hb dX4_access_137 ?_
            refine va_put (D := G) (ci := 2) (v := .long (v65 &&& (-4 : Int64))) (ty := .long) (C := RX4) (T := TX4) (N := 17) hx hb hts iw_X4_access_X4 tyX4 tyX4_ok nmX4 hown hK hP hD hS 0 rfl rfl 8 (by decide) (hts (.fieldLink RX4 162 "MixBenchModel" "pc" "J") (by decide +kernel)) (fun _ h9 => h9) rfl (by decide +kernel) rfl rfl (Nat.le_of_ble_eq_true rfl) dX4_access_138 (fun H locs hP hD hS => ?_)
            obtain ⟨u109, eu109⟩ : ∃ z, z = sm_pc u108 (v65 &&& (-4 : Int64)) := ⟨_, rfl⟩
            have hP : va_P G vwCl (wM yy a u109) H := by rw [eu109]; exact hP
            have hD : va_D A (wM yy a u109) := by rw [eu109]; exact hD
            refine lv_iconst (v := 0) hx hb dX4_access_141 (by decide) ?_
            exact g_iret (by have eu109 := eu109.symm; subst eu109; have eu108 := eu108.symm; subst eu108; have ev107 := ev107.symm; subst ev107; have ev106 := ev106.symm; subst ev106; have ev65 := ev65.symm; subst ev65; have ev64 := ev64.symm; subst ev64; have ev8 := ev8.symm; subst ev8; have ez9 := ez9.symm; subst ez9; have ev3 := ev3.symm; subst ev3; have ez4 := ez4.symm; subst ez4; have ev1 := ev1.symm; subst ev1; exact (if_pos c16).trans ((if_neg c63).trans ((if_pos c66).trans (rfl)))) hx hb hr hP hD hS hlocks dX4_access_142
        · refine lv_iload hx hb dX4_access_79 (lv_at hl 6 rfl) ?_
          refine lv_sipush (v := 158) hx hb dX4_access_81 (by decide) ?_
          refine lv_icmp_eq (tgt := 89) hx hb dX4_access_84 (by decide) (fun c110 => ?_) (fun c110 => ?_)
          · refine lv_aload_n hx hb dX4_access_89 rfl (lv_at hl 1 rfl) ?_
            refine va_get (D := G) (ci := 2) (v := .ref (a 1)) (C := RX4) (T := TX4) (N := 17) hx hb hts iw_X4_access_X4 hown hK hP 0 rfl rfl 1 (by decide) (hts (.fieldLink RX4 7 "MixBenchModel" "g" "[J") (by decide +kernel)) (fun _ h9 => h9) rfl dX4_access_90 ?_
            refine lv_iload_n hx hb dX4_access_93 rfl (lv_at hl 4 rfl) ?_
            refine va_lald hx hb hK hP 1 0 rfl rfl h1 dX4_access_94 ?_
            refine lv_aload_n hx hb dX4_access_95 rfl (lv_at hl 1 rfl) ?_
            refine lv_iload_n hx hb dX4_access_96 rfl (lv_at hl 2 rfl) ?_
            refine lv_iload hx hb dX4_access_97 (lv_at hl 5 rfl) ?_
            refine g_l (va_runV (As := [.int p0, .int p3]) (rest := [.long (m_g u p2.toNatClampNeg)]) ⟨hx, hb, hml, hown, hts⟩ (c_X4_number l yy a u p0 p3 (h2) G H.size) (cwV 2 hts gX4_access_X4_number rfl rfl rfl (by decide +kernel) ⟨Nat.le_of_ble_eq_true rfl, Nat.le_of_ble_eq_true rfl⟩) (g_preV eTrue_bl hK hE hP hD hS hA 0 rfl rfl) rfl rfl hl.1 rfl (lv_room (Nat.le_of_ble_eq_true rfl)) dX4_access_99 ⟨Nat.le_of_ble_eq_true rfl, Nat.le_of_ble_eq_true rfl⟩) hD hS hA (fun H locs hP hD hS => ?_)
            have hP : va_P G vwCl (wM yy a u) H := hP
            have hD : va_D A (wM yy a u) := hD
            refine lv_topl (fun v111 ev111 => ?_)
            refine lv_ladd hx hb dX4_access_102 ?_
            refine lv_topl (fun v112 ev112 => ?_)
            refine lv_lstore (lv' := [(8, .long v112), (7, .int v8), (0, .ref (a 0)), (1, .int p0), (2, .int p1), (3, .int p2), (4, .int p3), (5, .int v1), (6, .int v3)]) hx hb dX4_access_103 hl (by decide) rfl (fun ls hl => ?_)
            refine lv_iload hx hb dX4_access_105 (lv_at hl 7 rfl) ?_
            refine lv_sipush (v := 158) hx hb dX4_access_107 (by decide) ?_
            refine lv_icmp_ne (tgt := 143) hx hb dX4_access_110 (by decide) (fun c113 => ?_) (fun c113 => ?_)
            · refine lv_lload hx hb dX4_access_143 (lv_at hl 0 rfl) ?_
              refine p_i (W.runS (As := [.long v112]) (rest := []) ⟨hx, hb, hml, hown, hts⟩ (c_X4_beyond l v112 ) (va_cwS 1 hts gX4_access_X4_beyond rfl rfl rfl (by decide +kernel) ⟨Nat.le_of_ble_eq_true rfl, Nat.le_of_ble_eq_true rfl⟩) p_preT rfl rfl hl.1 rfl (lv_room (Nat.le_of_ble_eq_true rfl)) dX4_access_145 ⟨Nat.le_of_ble_eq_true rfl, Nat.le_of_ble_eq_true rfl⟩) ?_
              refine lv_if_eq (tgt := 153) hx hb dX4_access_148 (by decide) (fun c114 => ?_) (fun c114 => ?_)
              · refine lv_aload_n hx hb dX4_access_153 rfl (lv_at hl 2 rfl) ?_
                refine lv_dup hx hb dX4_access_154 rfl ?_
                refine va_get (D := G) (ci := 2) (v := .long (m_me u)) (C := RX4) (T := TX4) (N := 17) hx hb hts iw_X4_access_X4 hown hK hP 0 rfl rfl 10 (by decide) (hts (.fieldLink RX4 280 "MixBenchModel" "mems" "J") (by decide +kernel)) (fun _ h9 => h9) rfl dX4_access_155 ?_
                refine lv_lconst (v := 1) hx hb dX4_access_158 (by decide) ?_
                refine lv_ladd hx hb dX4_access_159 ?_
                refine va_put (D := G) (ci := 2) (v := .long ((m_me u) + (1 : Int64))) (ty := .long) (C := RX4) (T := TX4) (N := 17) hx hb hts iw_X4_access_X4 tyX4 tyX4_ok nmX4 hown hK hP hD hS 0 rfl rfl 10 (by decide) (hts (.fieldLink RX4 280 "MixBenchModel" "mems" "J") (by decide +kernel)) (fun _ h9 => h9) rfl (by decide +kernel) rfl rfl (Nat.le_of_ble_eq_true rfl) dX4_access_160 (fun H locs hP hD hS => ?_)
                obtain ⟨u115, eu115⟩ : ∃ z, z = sm_me u ((m_me u) + (1 : Int64)) := ⟨_, rfl⟩
                have hP : va_P G vwCl (wM yy a u115) H := by rw [eu115]; exact hP
                have hD : va_D A (wM yy a u115) := by rw [eu115]; exact hD
                refine lv_iload hx hb dX4_access_163 (lv_at hl 7 rfl) ?_
                refine lv_sipush (v := 146) hx hb dX4_access_165 (by decide) ?_
                obtain ⟨z118, ez118⟩ : ∃ q : Int32, q = (if v1 = (146 : Int32) then (4 : Int32) else if v1 = (178 : Int32) then (4 : Int32) else if v1 = (180 : Int32) then (8 : Int32) else jshl (1 : Int32) ((jshr v1 (2 : Int32)) &&& (3 : Int32))) := ⟨_, rfl⟩
                have k119 : ∀ (v117 : Int32), v117 = z118 → ∀ (H : Heap) (locs : List Loc), va_P G vwCl (wM yy a u115) H → va_D A (wM yy a u115) → va_S A s.heap H locs → ∀ ls : Array Slot, lv_has ls 13 [(0, .ref (a 0)), (1, .int p0), (2, .int p1), (3, .int p2), (4, .int p3), (5, .int v1), (6, .int v3), (7, .int v8), (8, .long v112)] → W p l e rm_X4_access s m args below meth c H locs 0 0 (MQ below (gQi (wM yy a) (f_X4_access u p0 p1 p2 p3) G A) args s 0 0 A) (F0 m 204 ls [.int v117]) := by
                  intro v117 jz118 H locs hP hD hS ls hl
                  have ev117 : v117 = z118 := jz118
                  refine lv_istore (lv' := [(10, .int v117), (0, .ref (a 0)), (1, .int p0), (2, .int p1), (3, .int p2), (4, .int p3), (5, .int v1), (6, .int v3), (7, .int v8), (8, .long v112)]) hx hb dX4_access_204 hl (by decide) rfl (fun ls hl => ?_)
                  refine lv_iload hx hb dX4_access_206 (lv_at hl 6 rfl) ?_
                  refine lv_sipush (v := 146) hx hb dX4_access_208 (by decide) ?_
                  refine lv_icmp_ne (tgt := 230) hx hb dX4_access_211 (by decide) (fun c122 => ?_) (fun c122 => ?_)
                  · refine lv_iload hx hb dX4_access_230 (lv_at hl 7 rfl) ?_
                    refine lv_if_eq (tgt := 272) hx hb dX4_access_232 (by decide) (fun c123 => ?_) (fun c123 => ?_)
                    · refine lv_iload hx hb dX4_access_272 (lv_at hl 6 rfl) ?_
                      refine lv_sipush (v := 178) hx hb dX4_access_274 (by decide) ?_
                      obtain ⟨z126, ez126⟩ : ∃ q : Int64, q = (if v1 = (178 : Int32) then jlushr (m_g u115 p1.toNatClampNeg) (32 : Int32) else if v1 = (180 : Int32) then p1.toInt64 else m_g u115 p1.toNatClampNeg) := ⟨_, rfl⟩
                      have k127 : ∀ (v125 : Int64), v125 = z126 → ∀ (H : Heap) (locs : List Loc), va_P G vwCl (wM yy a u115) H → va_D A (wM yy a u115) → va_S A s.heap H locs → ∀ ls : Array Slot, lv_has ls 13 [(0, .ref (a 0)), (1, .int p0), (2, .int p1), (3, .int p2), (4, .int p3), (5, .int v1), (6, .int v3), (7, .int v8), (8, .long v112), (10, .int v117)] → W p l e rm_X4_access s m args below meth c H locs 0 0 (MQ below (gQi (wM yy a) (f_X4_access u p0 p1 p2 p3) G A) args s 0 0 A) (F0 m 311 ls [.long v125]) := by
                        intro v125 jz126 H locs hP hD hS ls hl
                        have ev125 : v125 = z126 := jz126
                        refine lv_lstore (lv' := [(11, .long v125), (0, .ref (a 0)), (1, .int p0), (2, .int p1), (3, .int p2), (4, .int p3), (5, .int v1), (6, .int v3), (7, .int v8), (8, .long v112), (10, .int v117)]) hx hb dX4_access_311 hl (by decide) rfl (fun ls hl => ?_)
                        refine lv_iload hx hb dX4_access_313 (lv_at hl 6 rfl) ?_
                        refine lv_sipush (v := 176) hx hb dX4_access_315 (by decide) ?_
                        obtain ⟨z131, ez131⟩ : ∃ q : MS, q = (if (176 : Int32) ≤ v1 then u115 else if (v1 &&& (2 : Int32)) = (0 : Int32) then let z136 : Int32 := (if (f_X4_signed v125 v117) = v125 then (0 : Int32) else (1 : Int32)); let v135 : Int32 := z136; let u138 : MS := f_X4_over u115 v135; u138 else u115) := ⟨_, rfl⟩
                        have k132 : ∀ (u130 : MS), u130 = z131 → ∀ (H : Heap) (locs : List Loc), va_P G vwCl (wM yy a u130) H → va_D A (wM yy a u130) → va_S A s.heap H locs → ∀ ls : Array Slot, lv_has ls 13 [(0, .ref (a 0)), (1, .int p0), (2, .int p1), (3, .int p2), (4, .int p3), (5, .int v1), (6, .int v3), (7, .int v8), (8, .long v112), (10, .int v117), (11, .long v125)] → W p l e rm_X4_access s m args below meth c H locs 0 0 (MQ below (gQi (wM yy a) (f_X4_access u p0 p1 p2 p3) G A) args s 0 0 A) (F0 m 350 ls []) := by
                          intro u130 jz131 H locs hP hD hS ls hl
                          have eu130 : u130 = z131 := jz131
                          refine lv_aload_n hx hb dX4_access_350 rfl (lv_at hl 0 rfl) ?_
                          refine lv_lload hx hb dX4_access_351 (lv_at hl 8 rfl) ?_
                          refine lv_iload hx hb dX4_access_353 (lv_at hl 9 rfl) ?_
                          refine lv_lload hx hb dX4_access_355 (lv_at hl 10 rfl) ?_
                          refine g_v (va_runV (As := [.long v112, .int v117, .long v125]) (rest := []) ⟨hx, hb, hml, hown, hts⟩ (c_X4_m_ l yy a u130 v112 v117 v125 (c114) (by have eu130 := eu130.symm; subst eu130; have ez131 := ez131.symm; subst ez131; have ev125 := ev125.symm; subst ev125; have ez126 := ez126.symm; subst ez126; have ev117 := ev117.symm; subst ev117; have ez118 := ez118.symm; subst ez118; have eu115 := eu115.symm; subst eu115; have ev112 := ev112.symm; subst ev112; have ev111 := ev111.symm; subst ev111; have ev8 := ev8.symm; subst ev8; have ez9 := ez9.symm; subst ez9; have ev3 := ev3.symm; subst ev3; have ez4 := ez4.symm; subst ez4; have ev1 := ev1.symm; subst ev1; repeat (first | exact sz_op _ | exact Or.inr (Or.inr (Or.inl rfl)) | exact Or.inr (Or.inr (Or.inr rfl)) | refine or_i (P := fun q : Int32 => q = 1 ∨ q = 2 ∨ q = 4 ∨ q = 8) ?_ ?_)) G H.size) (cwV 3 hts gX4_access_X4_m_ rfl rfl rfl (by decide +kernel) ⟨Nat.le_of_ble_eq_true rfl, Nat.le_of_ble_eq_true rfl⟩) (g_preV eTrue_bl hK hE hP hD hS hA 0 rfl rfl) rfl rfl hl.1 rfl (lv_room (Nat.le_of_ble_eq_true rfl)) dX4_access_357 ⟨Nat.le_of_ble_eq_true rfl, Nat.le_of_ble_eq_true rfl⟩) hD hS hA (fun H locs hP hD hS => ?_)
                          obtain ⟨u139, eu139⟩ : ∃ z, z = f_X4_m_ u130 v112 v117 v125 := ⟨_, rfl⟩
                          have hP : va_P G vwCl (wM yy a u139) H := by rw [eu139]; exact hP
                          have hD : va_D A (wM yy a u139) := by rw [eu139]; exact hD
                          refine lv_aload_n hx hb dX4_access_360 rfl (lv_at hl 0 rfl) ?_
                          refine g_i (va_runV (As := []) (rest := []) ⟨hx, hb, hml, hown, hts⟩ (c_X4_on l yy a u139   G H.size) (cwV 0 hts gX4_access_X4_on rfl rfl rfl (by decide +kernel) ⟨Nat.le_of_ble_eq_true rfl, Nat.le_of_ble_eq_true rfl⟩) (g_preV eTrue_bl hK hE hP hD hS hA 0 rfl rfl) rfl rfl hl.1 rfl (lv_room (Nat.le_of_ble_eq_true rfl)) dX4_access_361 ⟨Nat.le_of_ble_eq_true rfl, Nat.le_of_ble_eq_true rfl⟩) hD hS hA (fun H locs hP hD hS => ?_)
                          refine lv_topi (fun v140 ev140 => ?_)
                          obtain ⟨u141, eu141⟩ : ∃ z, z = (f_X4_on u139 ).2 := ⟨_, rfl⟩
                          have hP : va_P G vwCl (wM yy a u141) H := by rw [eu141]; exact hP
                          have hD : va_D A (wM yy a u141) := by rw [eu141]; exact hD
                          exact g_iret (by have eu141 := eu141.symm; subst eu141; have ev140 := ev140.symm; subst ev140; have eu139 := eu139.symm; subst eu139; have eu130 := eu130.symm; subst eu130; have ez131 := ez131.symm; subst ez131; have ev125 := ev125.symm; subst ev125; have ez126 := ez126.symm; subst ez126; have ev117 := ev117.symm; subst ev117; have ez118 := ez118.symm; subst ez118; have eu115 := eu115.symm; subst eu115; have ev112 := ev112.symm; subst ev112; have ev111 := ev111.symm; subst ev111; have ev8 := ev8.symm; subst ev8; have ez9 := ez9.symm; subst ez9; have ev3 := ev3.symm; subst ev3; have ez4 := ez4.symm; subst ez4; have ev1 := ev1.symm; subst ev1; exact (if_pos c16).trans ((if_pos c63).trans ((if_pos c110).trans ((if_neg c113).trans ((if_pos c114).trans ((if_neg c122).trans ((if_pos c123).trans (rfl)))))))) hx hb hr hP hD hS hlocks dX4_access_364
                        refine lv_icmp_ge (tgt := 350) hx hb dX4_access_318 (by decide) (fun c129 => ?_) (fun c129 => ?_)
                        · exact k132 u115 (ez131.trans (by exact (if_pos c129).trans (rfl))).symm _ _ hP hD hS ls (lv_sub hl [1, 2, 3, 4, 5, 6, 7, 8, 9, 10, 0] rfl)
                        · refine lv_iload hx hb dX4_access_321 (lv_at hl 6 rfl) ?_
                          refine lv_iconst (v := 2) hx hb dX4_access_323 (by decide) ?_
                          refine lv_iand hx hb dX4_access_324 ?_
                          refine lv_if_ne (tgt := 350) hx hb dX4_access_325 (by decide) (fun c133 => ?_) (fun c133 => ?_)
                          · exact k132 u115 (ez131.trans (by exact (if_neg c129).trans ((if_neg c133).trans (rfl)))).symm _ _ hP hD hS ls (lv_sub hl [1, 2, 3, 4, 5, 6, 7, 8, 9, 10, 0] rfl)
                          · refine lv_aload_n hx hb dX4_access_328 rfl (lv_at hl 1 rfl) ?_
                            refine lv_lload hx hb dX4_access_329 (lv_at hl 0 rfl) ?_
                            refine lv_iload hx hb dX4_access_331 (lv_at hl 10 rfl) ?_
                            refine p_l (W.runS (As := [.long v125, .int v117]) (rest := [.ref (a 0)]) ⟨hx, hb, hml, hown, hts⟩ (c_X4_signed l v125 v117 ) (va_cwS 2 hts gX4_access_X4_signed rfl rfl rfl (by decide +kernel) ⟨Nat.le_of_ble_eq_true rfl, Nat.le_of_ble_eq_true rfl⟩) p_preT rfl rfl hl.1 rfl (lv_room (Nat.le_of_ble_eq_true rfl)) dX4_access_333 ⟨Nat.le_of_ble_eq_true rfl, Nat.le_of_ble_eq_true rfl⟩) ?_
                            refine lv_lload hx hb dX4_access_336 (lv_at hl 0 rfl) ?_
                            obtain ⟨z136, ez136⟩ : ∃ q : Int32, q = (if (f_X4_signed v125 v117) = v125 then (0 : Int32) else (1 : Int32)) := ⟨_, rfl⟩
                            have k137 : ∀ (v135 : Int32), v135 = z136 → ∀ (H : Heap) (locs : List Loc), va_P G vwCl (wM yy a u115) H → va_D A (wM yy a u115) → va_S A s.heap H locs → ∀ ls : Array Slot, lv_has ls 13 [(0, .ref (a 0)), (1, .int p0), (2, .int p1), (3, .int p2), (4, .int p3), (5, .int v1), (6, .int v3), (7, .int v8), (8, .long v112), (10, .int v117), (11, .long v125)] → W p l e rm_X4_access s m args below meth c H locs 0 0 (MQ below (gQi (wM yy a) (f_X4_access u p0 p1 p2 p3) G A) args s 0 0 A) (F0 m 347 ls [.int v135, .ref (a 0)]) := by
                              intro v135 jz136 H locs hP hD hS ls hl
                              have ev135 : v135 = z136 := jz136
                              refine g_v (va_runV (As := [.int v135]) (rest := []) ⟨hx, hb, hml, hown, hts⟩ (c_X4_over l yy a u115 v135  G H.size) (cwV 1 hts gX4_access_X4_over rfl rfl rfl (by decide +kernel) ⟨Nat.le_of_ble_eq_true rfl, Nat.le_of_ble_eq_true rfl⟩) (g_preV eTrue_bl hK hE hP hD hS hA 0 rfl rfl) rfl rfl hl.1 rfl (lv_room (Nat.le_of_ble_eq_true rfl)) dX4_access_347 ⟨Nat.le_of_ble_eq_true rfl, Nat.le_of_ble_eq_true rfl⟩) hD hS hA (fun H locs hP hD hS => ?_)
                              obtain ⟨u138, eu138⟩ : ∃ z, z = f_X4_over u115 v135 := ⟨_, rfl⟩
                              have hP : va_P G vwCl (wM yy a u138) H := by rw [eu138]; exact hP
                              have hD : va_D A (wM yy a u138) := by rw [eu138]; exact hD
                              exact k132 u138 (ez131.trans (by have eu138 := eu138.symm; subst eu138; have ev135 := ev135.symm; subst ev135; have ez136 := ez136.symm; subst ez136; exact (if_neg c129).trans ((if_pos c133).trans (rfl)))).symm _ _ hP hD hS ls (lv_sub hl [0, 1, 2, 3, 4, 5, 6, 7, 8, 9, 10] rfl)
                            refine lc_eq (tgt := 346) hx hb dX4_access_338 dX4_access_339 (by decide) (fun c134 => ?_) (fun c134 => ?_)
                            · refine lv_iconst (v := 0) hx hb dX4_access_346 (by decide) ?_
                              exact k137 (0 : Int32) (ez136.trans (by exact (if_pos c134).trans (rfl))).symm _ _ hP hD hS ls (lv_sub hl [1, 2, 3, 4, 5, 6, 7, 8, 9, 10, 0] rfl)
                            · refine lv_iconst (v := 1) hx hb dX4_access_342 (by decide) ?_
                              refine lv_goto (tgt := 347) hx hb dX4_access_343 (by decide) ?_
                              exact k137 (1 : Int32) (ez136.trans (by exact (if_neg c134).trans (rfl))).symm _ _ hP hD hS ls (lv_sub hl [1, 2, 3, 4, 5, 6, 7, 8, 9, 10, 0] rfl)
                      refine lv_icmp_ne (tgt := 292) hx hb dX4_access_277 (by decide) (fun c124 => ?_) (fun c124 => ?_)
                      · refine lv_iload hx hb dX4_access_292 (lv_at hl 6 rfl) ?_
                        refine lv_sipush (v := 180) hx hb dX4_access_294 (by decide) ?_
                        refine lv_icmp_ne (tgt := 305) hx hb dX4_access_297 (by decide) (fun c128 => ?_) (fun c128 => ?_)
                        · refine lv_aload_n hx hb dX4_access_305 rfl (lv_at hl 1 rfl) ?_
                          refine va_get (D := G) (ci := 2) (v := .ref (a 1)) (C := RX4) (T := TX4) (N := 17) hx hb hts iw_X4_access_X4 hown hK hP 0 rfl rfl 1 (by decide) (hts (.fieldLink RX4 7 "MixBenchModel" "g" "[J") (by decide +kernel)) (fun _ h9 => h9) rfl dX4_access_306 ?_
                          refine lv_iload_n hx hb dX4_access_309 rfl (lv_at hl 3 rfl) ?_
                          refine va_lald hx hb hK hP 1 0 rfl rfl h0 dX4_access_310 ?_
                          exact k127 (m_g u115 p1.toNatClampNeg) (ez126.trans (by exact (if_neg c124).trans ((if_neg c128).trans (rfl)))).symm _ _ hP hD hS ls (lv_sub hl [1, 2, 3, 4, 5, 6, 7, 8, 9, 0] rfl)
                        · refine lv_iload_n hx hb dX4_access_300 rfl (lv_at hl 3 rfl) ?_
                          refine lv_i2l (v := p1.toInt64) hx hb dX4_access_301 rfl ?_
                          refine lv_goto (tgt := 311) hx hb dX4_access_302 (by decide) ?_
                          exact k127 p1.toInt64 (ez126.trans (by exact (if_neg c124).trans ((if_pos c128).trans (rfl)))).symm _ _ hP hD hS ls (lv_sub hl [1, 2, 3, 4, 5, 6, 7, 8, 9, 0] rfl)
                      · refine lv_aload_n hx hb dX4_access_280 rfl (lv_at hl 1 rfl) ?_
                        refine va_get (D := G) (ci := 2) (v := .ref (a 1)) (C := RX4) (T := TX4) (N := 17) hx hb hts iw_X4_access_X4 hown hK hP 0 rfl rfl 1 (by decide) (hts (.fieldLink RX4 7 "MixBenchModel" "g" "[J") (by decide +kernel)) (fun _ h9 => h9) rfl dX4_access_281 ?_
                        refine lv_iload_n hx hb dX4_access_284 rfl (lv_at hl 3 rfl) ?_
                        refine va_lald hx hb hK hP 1 0 rfl rfl h0 dX4_access_285 ?_
                        refine lv_bipush (v := 32) hx hb dX4_access_286 (by decide) ?_
                        refine lv_lushr (v := jlushr (m_g u115 p1.toNatClampNeg) (32 : Int32)) hx hb dX4_access_288 rfl ?_
                        refine lv_goto (tgt := 311) hx hb dX4_access_289 (by decide) ?_
                        exact k127 (jlushr (m_g u115 p1.toNatClampNeg) (32 : Int32)) (ez126.trans (by exact (if_pos c124).trans (rfl))).symm _ _ hP hD hS ls (lv_sub hl [1, 2, 3, 4, 5, 6, 7, 8, 9, 0] rfl)
                    · refine lv_aload_n hx hb dX4_access_235 rfl (lv_at hl 1 rfl) ?_
                      refine lv_iload_n hx hb dX4_access_236 rfl (lv_at hl 3 rfl) ?_
                      refine lv_iload hx hb dX4_access_237 (lv_at hl 6 rfl) ?_
                      refine lv_iconst (v := 2) hx hb dX4_access_239 (by decide) ?_
                      refine lv_iand hx hb dX4_access_240 ?_
                      obtain ⟨z144, ez144⟩ : ∃ q : Int64, q = (if (v1 &&& (2 : Int32)) = (0 : Int32) then let v147 : Int64 := f_X4_m u115 v112 v117; f_X4_signed v147 v117 else let v146 : Int64 := f_X4_m u115 v112 v117; v146) := ⟨_, rfl⟩
                      have k145 : ∀ (v143 : Int64), v143 = z144 → ∀ (H : Heap) (locs : List Loc), va_P G vwCl (wM yy a u115) H → va_D A (wM yy a u115) → va_S A s.heap H locs → ∀ ls : Array Slot, lv_has ls 13 [(0, .ref (a 0)), (1, .int p0), (2, .int p1), (3, .int p2), (4, .int p3), (5, .int v1), (6, .int v3), (7, .int v8), (8, .long v112), (10, .int v117)] → W p l e rm_X4_access s m args below meth c H locs 0 0 (MQ below (gQi (wM yy a) (f_X4_access u p0 p1 p2 p3) G A) args s 0 0 A) (F0 m 268 ls [.long v143, .int p1, .ref (a 0)]) := by
                        intro v143 jz144 H locs hP hD hS ls hl
                        have ev143 : v143 = z144 := jz144
                        refine g_i (va_runV (As := [.int p1, .long v143]) (rest := []) ⟨hx, hb, hml, hown, hts⟩ (c_X4_done l yy a u115 p1 v143 (h0) G H.size) (cwV 2 hts gX4_access_X4_done rfl rfl rfl (by decide +kernel) ⟨Nat.le_of_ble_eq_true rfl, Nat.le_of_ble_eq_true rfl⟩) (g_preV eTrue_bl hK hE hP hD hS hA 0 rfl rfl) rfl rfl hl.1 rfl (lv_room (Nat.le_of_ble_eq_true rfl)) dX4_access_268 ⟨Nat.le_of_ble_eq_true rfl, Nat.le_of_ble_eq_true rfl⟩) hD hS hA (fun H locs hP hD hS => ?_)
                        refine lv_topi (fun v148 ev148 => ?_)
                        obtain ⟨u149, eu149⟩ : ∃ z, z = (f_X4_done u115 p1 v143).2 := ⟨_, rfl⟩
                        have hP : va_P G vwCl (wM yy a u149) H := by rw [eu149]; exact hP
                        have hD : va_D A (wM yy a u149) := by rw [eu149]; exact hD
                        exact g_iret (by have eu149 := eu149.symm; subst eu149; have ev148 := ev148.symm; subst ev148; have ev143 := ev143.symm; subst ev143; have ez144 := ez144.symm; subst ez144; have ev117 := ev117.symm; subst ev117; have ez118 := ez118.symm; subst ez118; have eu115 := eu115.symm; subst eu115; have ev112 := ev112.symm; subst ev112; have ev111 := ev111.symm; subst ev111; have ev8 := ev8.symm; subst ev8; have ez9 := ez9.symm; subst ez9; have ev3 := ev3.symm; subst ev3; have ez4 := ez4.symm; subst ez4; have ev1 := ev1.symm; subst ev1; exact (if_pos c16).trans ((if_pos c63).trans ((if_pos c110).trans ((if_neg c113).trans ((if_pos c114).trans ((if_neg c122).trans ((if_neg c123).trans (rfl)))))))) hx hb hr hP hD hS hlocks dX4_access_271
                      refine lv_if_ne (tgt := 260) hx hb dX4_access_241 (by decide) (fun c142 => ?_) (fun c142 => ?_)
                      · refine lv_aload_n hx hb dX4_access_260 rfl (lv_at hl 1 rfl) ?_
                        refine lv_lload hx hb dX4_access_261 (lv_at hl 9 rfl) ?_
                        refine lv_iload hx hb dX4_access_263 (lv_at hl 0 rfl) ?_
                        refine g_l (va_runV (As := [.long v112, .int v117]) (rest := [.int p1, .ref (a 0)]) ⟨hx, hb, hml, hown, hts⟩ (c_X4_m l yy a u115 v112 v117 (c114) (by have ev117 := ev117.symm; subst ev117; have ez118 := ez118.symm; subst ez118; have eu115 := eu115.symm; subst eu115; have ev112 := ev112.symm; subst ev112; have ev111 := ev111.symm; subst ev111; have ev8 := ev8.symm; subst ev8; have ez9 := ez9.symm; subst ez9; have ev3 := ev3.symm; subst ev3; have ez4 := ez4.symm; subst ez4; have ev1 := ev1.symm; subst ev1; repeat (first | exact sz_op _ | exact Or.inr (Or.inr (Or.inl rfl)) | exact Or.inr (Or.inr (Or.inr rfl)) | refine or_i (P := fun q : Int32 => q = 1 ∨ q = 2 ∨ q = 4 ∨ q = 8) ?_ ?_)) G H.size) (cwV 2 hts gX4_access_X4_m rfl rfl rfl (by decide +kernel) ⟨Nat.le_of_ble_eq_true rfl, Nat.le_of_ble_eq_true rfl⟩) (g_preV eTrue_bl hK hE hP hD hS hA 0 rfl rfl) rfl rfl hl.1 rfl (lv_room (Nat.le_of_ble_eq_true rfl)) dX4_access_265 ⟨Nat.le_of_ble_eq_true rfl, Nat.le_of_ble_eq_true rfl⟩) hD hS hA (fun H locs hP hD hS => ?_)
                        have hP : va_P G vwCl (wM yy a u115) H := hP
                        have hD : va_D A (wM yy a u115) := hD
                        refine lv_topl (fun v146 ev146 => ?_)
                        exact k145 v146 (ez144.trans (by have ev146 := ev146.symm; subst ev146; exact (if_neg c142).trans (rfl))).symm _ _ hP hD hS ls (lv_sub hl [1, 2, 3, 4, 5, 6, 7, 8, 9, 0] rfl)
                      · refine lv_aload_n hx hb dX4_access_244 rfl (lv_at hl 1 rfl) ?_
                        refine lv_lload hx hb dX4_access_245 (lv_at hl 9 rfl) ?_
                        refine lv_iload hx hb dX4_access_247 (lv_at hl 0 rfl) ?_
                        refine g_l (va_runV (As := [.long v112, .int v117]) (rest := [.int p1, .ref (a 0)]) ⟨hx, hb, hml, hown, hts⟩ (c_X4_m l yy a u115 v112 v117 (c114) (by have ev117 := ev117.symm; subst ev117; have ez118 := ez118.symm; subst ez118; have eu115 := eu115.symm; subst eu115; have ev112 := ev112.symm; subst ev112; have ev111 := ev111.symm; subst ev111; have ev8 := ev8.symm; subst ev8; have ez9 := ez9.symm; subst ez9; have ev3 := ev3.symm; subst ev3; have ez4 := ez4.symm; subst ez4; have ev1 := ev1.symm; subst ev1; repeat (first | exact sz_op _ | exact Or.inr (Or.inr (Or.inl rfl)) | exact Or.inr (Or.inr (Or.inr rfl)) | refine or_i (P := fun q : Int32 => q = 1 ∨ q = 2 ∨ q = 4 ∨ q = 8) ?_ ?_)) G H.size) (cwV 2 hts gX4_access_X4_m rfl rfl rfl (by decide +kernel) ⟨Nat.le_of_ble_eq_true rfl, Nat.le_of_ble_eq_true rfl⟩) (g_preV eTrue_bl hK hE hP hD hS hA 0 rfl rfl) rfl rfl hl.1 rfl (lv_room (Nat.le_of_ble_eq_true rfl)) dX4_access_249 ⟨Nat.le_of_ble_eq_true rfl, Nat.le_of_ble_eq_true rfl⟩) hD hS hA (fun H locs hP hD hS => ?_)
                        have hP : va_P G vwCl (wM yy a u115) H := hP
                        have hD : va_D A (wM yy a u115) := hD
                        refine lv_topl (fun v147 ev147 => ?_)
                        refine lv_iload hx hb dX4_access_252 (lv_at hl 0 rfl) ?_
                        refine p_l (W.runS (As := [.long v147, .int v117]) (rest := [.int p1, .ref (a 0)]) ⟨hx, hb, hml, hown, hts⟩ (c_X4_signed l v147 v117 ) (va_cwS 2 hts gX4_access_X4_signed rfl rfl rfl (by decide +kernel) ⟨Nat.le_of_ble_eq_true rfl, Nat.le_of_ble_eq_true rfl⟩) p_preT rfl rfl hl.1 rfl (lv_room (Nat.le_of_ble_eq_true rfl)) dX4_access_254 ⟨Nat.le_of_ble_eq_true rfl, Nat.le_of_ble_eq_true rfl⟩) ?_
                        refine lv_goto (tgt := 268) hx hb dX4_access_257 (by decide) ?_
                        exact k145 (f_X4_signed v147 v117) (ez144.trans (by have ev147 := ev147.symm; subst ev147; exact (if_pos c142).trans (rfl))).symm _ _ hP hD hS ls (lv_sub hl [1, 2, 3, 4, 5, 6, 7, 8, 9, 0] rfl)
                  · refine lv_aload_n hx hb dX4_access_214 rfl (lv_at hl 1 rfl) ?_
                    refine lv_iload_n hx hb dX4_access_215 rfl (lv_at hl 3 rfl) ?_
                    refine lv_aload_n hx hb dX4_access_216 rfl (lv_at hl 1 rfl) ?_
                    refine lv_lload hx hb dX4_access_217 (lv_at hl 9 rfl) ?_
                    refine lv_iconst (v := 4) hx hb dX4_access_219 (by decide) ?_
                    refine g_l (va_runV (As := [.long v112, .int (4 : Int32)]) (rest := [.int p1, .ref (a 0)]) ⟨hx, hb, hml, hown, hts⟩ (c_X4_m l yy a u115 v112 (4 : Int32) (c114) (by decide) G H.size) (cwV 2 hts gX4_access_X4_m rfl rfl rfl (by decide +kernel) ⟨Nat.le_of_ble_eq_true rfl, Nat.le_of_ble_eq_true rfl⟩) (g_preV eTrue_bl hK hE hP hD hS hA 0 rfl rfl) rfl rfl hl.1 rfl (lv_room (Nat.le_of_ble_eq_true rfl)) dX4_access_220 ⟨Nat.le_of_ble_eq_true rfl, Nat.le_of_ble_eq_true rfl⟩) hD hS hA (fun H locs hP hD hS => ?_)
                    have hP : va_P G vwCl (wM yy a u115) H := hP
                    have hD : va_D A (wM yy a u115) := hD
                    refine lv_topl (fun v150 ev150 => ?_)
                    refine lv_bipush (v := 32) hx hb dX4_access_223 (by decide) ?_
                    refine lv_lshl (v := jlshl v150 (32 : Int32)) hx hb dX4_access_225 rfl ?_
                    refine g_i (va_runV (As := [.int p1, .long (jlshl v150 (32 : Int32))]) (rest := []) ⟨hx, hb, hml, hown, hts⟩ (c_X4_done l yy a u115 p1 (jlshl v150 (32 : Int32)) (h0) G H.size) (cwV 2 hts gX4_access_X4_done rfl rfl rfl (by decide +kernel) ⟨Nat.le_of_ble_eq_true rfl, Nat.le_of_ble_eq_true rfl⟩) (g_preV eTrue_bl hK hE hP hD hS hA 0 rfl rfl) rfl rfl hl.1 rfl (lv_room (Nat.le_of_ble_eq_true rfl)) dX4_access_226 ⟨Nat.le_of_ble_eq_true rfl, Nat.le_of_ble_eq_true rfl⟩) hD hS hA (fun H locs hP hD hS => ?_)
                    refine lv_topi (fun v151 ev151 => ?_)
                    obtain ⟨u152, eu152⟩ : ∃ z, z = (f_X4_done u115 p1 (jlshl v150 (32 : Int32))).2 := ⟨_, rfl⟩
                    have hP : va_P G vwCl (wM yy a u152) H := by rw [eu152]; exact hP
                    have hD : va_D A (wM yy a u152) := by rw [eu152]; exact hD
                    exact g_iret (by have eu152 := eu152.symm; subst eu152; have ev151 := ev151.symm; subst ev151; have ev150 := ev150.symm; subst ev150; have ev117 := ev117.symm; subst ev117; have ez118 := ez118.symm; subst ez118; have eu115 := eu115.symm; subst eu115; have ev112 := ev112.symm; subst ev112; have ev111 := ev111.symm; subst ev111; have ev8 := ev8.symm; subst ev8; have ez9 := ez9.symm; subst ez9; have ev3 := ev3.symm; subst ev3; have ez4 := ez4.symm; subst ez4; have ev1 := ev1.symm; subst ev1; exact (if_pos c16).trans ((if_pos c63).trans ((if_pos c110).trans ((if_neg c113).trans ((if_pos c114).trans ((if_pos c122).trans (rfl))))))) hx hb hr hP hD hS hlocks dX4_access_229
                refine lv_icmp_eq (tgt := 179) hx hb dX4_access_168 (by decide) (fun c116 => ?_) (fun c116 => ?_)
                · refine lv_iconst (v := 4) hx hb dX4_access_179 (by decide) ?_
                  refine lv_goto (tgt := 204) hx hb dX4_access_180 (by decide) ?_
                  exact k119 (4 : Int32) (ez118.trans (by exact (if_pos c116).trans (rfl))).symm _ _ hP hD hS ls (lv_sub hl [2, 3, 4, 5, 6, 7, 8, 1, 0] rfl)
                · refine lv_iload hx hb dX4_access_171 (lv_at hl 7 rfl) ?_
                  refine lv_sipush (v := 178) hx hb dX4_access_173 (by decide) ?_
                  refine lv_icmp_ne (tgt := 183) hx hb dX4_access_176 (by decide) (fun c120 => ?_) (fun c120 => ?_)
                  · refine lv_iload hx hb dX4_access_183 (lv_at hl 7 rfl) ?_
                    refine lv_sipush (v := 180) hx hb dX4_access_185 (by decide) ?_
                    refine lv_icmp_ne (tgt := 196) hx hb dX4_access_188 (by decide) (fun c121 => ?_) (fun c121 => ?_)
                    · refine lv_iconst (v := 1) hx hb dX4_access_196 (by decide) ?_
                      refine lv_iload hx hb dX4_access_197 (lv_at hl 7 rfl) ?_
                      refine lv_iconst (v := 2) hx hb dX4_access_199 (by decide) ?_
                      refine lv_ishr hx hb dX4_access_200 ?_
                      refine lv_iconst (v := 3) hx hb dX4_access_201 (by decide) ?_
                      refine lv_iand hx hb dX4_access_202 ?_
                      refine lv_ishl hx hb dX4_access_203 ?_
                      exact k119 (jshl (1 : Int32) ((jshr v1 (2 : Int32)) &&& (3 : Int32))) (ez118.trans (by exact (if_neg c116).trans ((if_neg c120).trans ((if_neg c121).trans (rfl))))).symm _ _ hP hD hS ls (lv_sub hl [2, 3, 4, 5, 6, 7, 8, 1, 0] rfl)
                    · refine lv_bipush (v := 8) hx hb dX4_access_191 (by decide) ?_
                      refine lv_goto (tgt := 204) hx hb dX4_access_193 (by decide) ?_
                      exact k119 (8 : Int32) (ez118.trans (by exact (if_neg c116).trans ((if_neg c120).trans ((if_pos c121).trans (rfl))))).symm _ _ hP hD hS ls (lv_sub hl [2, 3, 4, 5, 6, 7, 8, 1, 0] rfl)
                  · refine lv_iconst (v := 4) hx hb dX4_access_179 (by decide) ?_
                    refine lv_goto (tgt := 204) hx hb dX4_access_180 (by decide) ?_
                    exact k119 (4 : Int32) (ez118.trans (by exact (if_neg c116).trans ((if_pos c120).trans (rfl)))).symm _ _ hP hD hS ls (lv_sub hl [2, 3, 4, 5, 6, 7, 8, 1, 0] rfl)
              · refine lv_iconst (v := 3) hx hb dX4_access_151 (by decide) ?_
                exact g_iret (by have ev112 := ev112.symm; subst ev112; have ev111 := ev111.symm; subst ev111; have ev8 := ev8.symm; subst ev8; have ez9 := ez9.symm; subst ez9; have ev3 := ev3.symm; subst ev3; have ez4 := ez4.symm; subst ez4; have ev1 := ev1.symm; subst ev1; exact (if_pos c16).trans ((if_pos c63).trans ((if_pos c110).trans ((if_neg c113).trans ((if_neg c114).trans (rfl)))))) hx hb hr hP hD hS hlocks dX4_access_152
            · refine lv_aload_n hx hb dX4_access_113 rfl (lv_at hl 2 rfl) ?_
              refine va_get (D := G) (ci := 2) (v := .long (m_pc u)) (C := RX4) (T := TX4) (N := 17) hx hb hts iw_X4_access_X4 hown hK hP 0 rfl rfl 8 (by decide) (hts (.fieldLink RX4 162 "MixBenchModel" "pc" "J") (by decide +kernel)) (fun _ h9 => h9) rfl dX4_access_114 ?_
              refine lv_topl (fun v153 ev153 => ?_)
              refine lv_lstore (lv' := [(10, .long v153), (8, .long v112), (7, .int v8), (0, .ref (a 0)), (1, .int p0), (2, .int p1), (3, .int p2), (4, .int p3), (5, .int v1), (6, .int v3)]) hx hb dX4_access_117 hl (by decide) rfl (fun ls hl => ?_)
              refine lv_aload_n hx hb dX4_access_119 rfl (lv_at hl 3 rfl) ?_
              refine lv_iload_n hx hb dX4_access_120 rfl (lv_at hl 5 rfl) ?_
              refine lv_lload hx hb dX4_access_121 (lv_at hl 0 rfl) ?_
              refine lv_ldc2 hx hb hown (hts (.constantLong RX4 223 (4)) (by decide +kernel)) dX4_access_123 ?_
              refine lv_ladd hx hb dX4_access_126 ?_
              refine g_i (va_runV (As := [.int p1, .long (v153 + (4 : Int64))]) (rest := []) ⟨hx, hb, hml, hown, hts⟩ (c_X4_done l yy a u p1 (v153 + (4 : Int64)) (h0) G H.size) (cwV 2 hts gX4_access_X4_done rfl rfl rfl (by decide +kernel) ⟨Nat.le_of_ble_eq_true rfl, Nat.le_of_ble_eq_true rfl⟩) (g_preV eTrue_bl hK hE hP hD hS hA 0 rfl rfl) rfl rfl hl.1 rfl (lv_room (Nat.le_of_ble_eq_true rfl)) dX4_access_127 ⟨Nat.le_of_ble_eq_true rfl, Nat.le_of_ble_eq_true rfl⟩) hD hS hA (fun H locs hP hD hS => ?_)
              refine lv_topi (fun v154 ev154 => ?_)
              obtain ⟨u155, eu155⟩ : ∃ z, z = (f_X4_done u p1 (v153 + (4 : Int64))).2 := ⟨_, rfl⟩
              have hP : va_P G vwCl (wM yy a u155) H := by rw [eu155]; exact hP
              have hD : va_D A (wM yy a u155) := by rw [eu155]; exact hD
              refine lv_pop hx hb dX4_access_130 rfl ?_
              refine lv_aload_n hx hb dX4_access_131 rfl (lv_at hl 3 rfl) ?_
              refine lv_lload hx hb dX4_access_132 (lv_at hl 1 rfl) ?_
              refine lv_ldc2 hx hb hown (hts (.constantLong RX4 225 (-4)) (by decide +kernel)) dX4_access_134 ?_
              refine lv_land hx hb dX4_access_137 ?_
              refine va_put (D := G) (ci := 2) (v := .long (v112 &&& (-4 : Int64))) (ty := .long) (C := RX4) (T := TX4) (N := 17) hx hb hts iw_X4_access_X4 tyX4 tyX4_ok nmX4 hown hK hP hD hS 0 rfl rfl 8 (by decide) (hts (.fieldLink RX4 162 "MixBenchModel" "pc" "J") (by decide +kernel)) (fun _ h9 => h9) rfl (by decide +kernel) rfl rfl (Nat.le_of_ble_eq_true rfl) dX4_access_138 (fun H locs hP hD hS => ?_)
              obtain ⟨u156, eu156⟩ : ∃ z, z = sm_pc u155 (v112 &&& (-4 : Int64)) := ⟨_, rfl⟩
              have hP : va_P G vwCl (wM yy a u156) H := by rw [eu156]; exact hP
              have hD : va_D A (wM yy a u156) := by rw [eu156]; exact hD
              refine lv_iconst (v := 0) hx hb dX4_access_141 (by decide) ?_
              exact g_iret (by have eu156 := eu156.symm; subst eu156; have eu155 := eu155.symm; subst eu155; have ev154 := ev154.symm; subst ev154; have ev153 := ev153.symm; subst ev153; have ev112 := ev112.symm; subst ev112; have ev111 := ev111.symm; subst ev111; have ev8 := ev8.symm; subst ev8; have ez9 := ez9.symm; subst ez9; have ev3 := ev3.symm; subst ev3; have ez4 := ez4.symm; subst ez4; have ev1 := ev1.symm; subst ev1; exact (if_pos c16).trans ((if_pos c63).trans ((if_pos c110).trans ((if_pos c113).trans (rfl))))) hx hb hr hP hD hS hlocks dX4_access_142
          · refine lv_iconst (v := 2) hx hb dX4_access_87 (by decide) ?_
            exact g_iret (by have ev8 := ev8.symm; subst ev8; have ez9 := ez9.symm; subst ez9; have ev3 := ev3.symm; subst ev3; have ez4 := ez4.symm; subst ez4; have ev1 := ev1.symm; subst ev1; exact (if_pos c16).trans ((if_pos c63).trans ((if_neg c110).trans (rfl)))) hx hb hr hP hD hS hlocks dX4_access_88
    refine lv_icmp_lt (tgt := 46) hx hb dX4_access_35 (by decide) (fun c7 => ?_) (fun c7 => ?_)
    · refine lv_iload hx hb dX4_access_46 (lv_at hl 6 rfl) ?_
      refine lv_sipush (v := 178) hx hb dX4_access_48 (by decide) ?_
      refine lv_icmp_eq (tgt := 62) hx hb dX4_access_51 (by decide) (fun c11 => ?_) (fun c11 => ?_)
      · refine lv_iconst (v := 1) hx hb dX4_access_62 (by decide) ?_
        refine lv_goto (tgt := 67) hx hb dX4_access_63 (by decide) ?_
        exact k10 (1 : Int32) (ez9.trans (by exact (if_pos c7).trans ((if_pos c11).trans (rfl)))).symm _ _ hP hD hS ls (lv_sub hl [1, 2, 3, 4, 5, 6, 0] rfl)
      · refine lv_iload hx hb dX4_access_54 (lv_at hl 6 rfl) ?_
        refine lv_sipush (v := 180) hx hb dX4_access_56 (by decide) ?_
        refine lv_icmp_ne (tgt := 66) hx hb dX4_access_59 (by decide) (fun c12 => ?_) (fun c12 => ?_)
        · refine lv_iconst (v := 0) hx hb dX4_access_66 (by decide) ?_
          exact k10 (0 : Int32) (ez9.trans (by exact (if_pos c7).trans ((if_neg c11).trans ((if_neg c12).trans (rfl))))).symm _ _ hP hD hS ls (lv_sub hl [1, 2, 3, 4, 5, 6, 0] rfl)
        · refine lv_iconst (v := 1) hx hb dX4_access_62 (by decide) ?_
          refine lv_goto (tgt := 67) hx hb dX4_access_63 (by decide) ?_
          exact k10 (1 : Int32) (ez9.trans (by exact (if_pos c7).trans ((if_neg c11).trans ((if_pos c12).trans (rfl))))).symm _ _ hP hD hS ls (lv_sub hl [1, 2, 3, 4, 5, 6, 0] rfl)
    · refine lv_iload hx hb dX4_access_38 (lv_at hl 6 rfl) ?_
      refine lv_sipush (v := 174) hx hb dX4_access_40 (by decide) ?_
      refine lv_icmp_le (tgt := 62) hx hb dX4_access_43 (by decide) (fun c13 => ?_) (fun c13 => ?_)
      · refine lv_iconst (v := 1) hx hb dX4_access_62 (by decide) ?_
        refine lv_goto (tgt := 67) hx hb dX4_access_63 (by decide) ?_
        exact k10 (1 : Int32) (ez9.trans (by exact (if_neg c7).trans ((if_pos c13).trans (rfl)))).symm _ _ hP hD hS ls (lv_sub hl [1, 2, 3, 4, 5, 6, 0] rfl)
      · refine lv_iload hx hb dX4_access_46 (lv_at hl 6 rfl) ?_
        refine lv_sipush (v := 178) hx hb dX4_access_48 (by decide) ?_
        refine lv_icmp_eq (tgt := 62) hx hb dX4_access_51 (by decide) (fun c14 => ?_) (fun c14 => ?_)
        · refine lv_iconst (v := 1) hx hb dX4_access_62 (by decide) ?_
          refine lv_goto (tgt := 67) hx hb dX4_access_63 (by decide) ?_
          exact k10 (1 : Int32) (ez9.trans (by exact (if_neg c7).trans ((if_neg c13).trans ((if_pos c14).trans (rfl))))).symm _ _ hP hD hS ls (lv_sub hl [1, 2, 3, 4, 5, 6, 0] rfl)
        · refine lv_iload hx hb dX4_access_54 (lv_at hl 6 rfl) ?_
          refine lv_sipush (v := 180) hx hb dX4_access_56 (by decide) ?_
          refine lv_icmp_ne (tgt := 66) hx hb dX4_access_59 (by decide) (fun c15 => ?_) (fun c15 => ?_)
          · refine lv_iconst (v := 0) hx hb dX4_access_66 (by decide) ?_
            exact k10 (0 : Int32) (ez9.trans (by exact (if_neg c7).trans ((if_neg c13).trans ((if_neg c14).trans ((if_neg c15).trans (rfl)))))).symm _ _ hP hD hS ls (lv_sub hl [1, 2, 3, 4, 5, 6, 0] rfl)
          · refine lv_iconst (v := 1) hx hb dX4_access_62 (by decide) ?_
            refine lv_goto (tgt := 67) hx hb dX4_access_63 (by decide) ?_
            exact k10 (1 : Int32) (ez9.trans (by exact (if_neg c7).trans ((if_neg c13).trans ((if_neg c14).trans ((if_pos c15).trans (rfl)))))).symm _ _ hP hD hS ls (lv_sub hl [1, 2, 3, 4, 5, 6, 0] rfl)
  refine lv_icmp_lt (tgt := 23) hx hb dX4_access_12 (by decide) (fun c2 => ?_) (fun c2 => ?_)
  · refine lv_iconst (v := 1) hx hb dX4_access_23 (by decide) ?_
    refine lv_goto (tgt := 28) hx hb dX4_access_24 (by decide) ?_
    exact k5 (1 : Int32) (ez4.trans (by exact (if_pos c2).trans (rfl))).symm _ _ hP hD hS ls (lv_sub hl [1, 2, 3, 4, 5, 0] rfl)
  · refine lv_iload hx hb dX4_access_15 (lv_at hl 0 rfl) ?_
    refine lv_sipush (v := 146) hx hb dX4_access_17 (by decide) ?_
    refine lv_icmp_ne (tgt := 27) hx hb dX4_access_20 (by decide) (fun c6 => ?_) (fun c6 => ?_)
    · refine lv_iconst (v := 0) hx hb dX4_access_27 (by decide) ?_
      exact k5 (0 : Int32) (ez4.trans (by exact (if_neg c2).trans ((if_neg c6).trans (rfl)))).symm _ _ hP hD hS ls (lv_sub hl [1, 2, 3, 4, 5, 0] rfl)
    · refine lv_iconst (v := 1) hx hb dX4_access_23 (by decide) ?_
      refine lv_goto (tgt := 28) hx hb dX4_access_24 (by decide) ?_
      exact k5 (1 : Int32) (ez4.trans (by exact (if_neg c2).trans ((if_pos c6).trans (rfl)))).symm _ _ hP hD hS ls (lv_sub hl [1, 2, 3, 4, 5, 0] rfl)
