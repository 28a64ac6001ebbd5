set_option maxHeartbeats 4000000 in
set_option maxRecDepth 100000 in
theorem mtX1_walk (l : Launch) (dC : Nat → ClassId) (dI : Nat → Nat → Nat) (cL : ClassId) (cI : ClassId) (q0 : Nat) (qw : Nat) (qr : Nat) (qc : Nat) (qn : Nat) (w : Nat → Int64) (tb : Int64) (su : Bool) (mx : Bool) (cf : Nat → Int32) (nu : Nat → Int64) (hz : Nat) (ad : Int64) (ac : Int32) (md : Int32) (dn : Nat) (hdn : dn ≤ 4) : Met l yX1_walk wsX1_walk ({ frames := 4, cells := 0, slots := 0, locals := 108 }) (va_Pc [.ref q0, .long ad, .int ac, .int md, .int (nI dn)] (fun U => U.heap.size = hz ∧ va_P (dC, dI) vwCl (wPW cL cI q0 qw qr qc qn w tb su mx cf nu) U.heap ∧ va_K (dC, dI) vwCl [(cL, .long), (cI, .int)] U ∧ va_D (fun _ => True) (wPW cL cI q0 qw qr qc qn w tb su mx cf nu))) (va_Ql (fun r (_ : Unit) => r = (k_walkF w su mx cf nu ad ac md dn (tb &&& 17592186044415)).1) (fun _ t => va_P (dC, dI) vwCl (wPW cL cI q0 qw qr qc qn (k_walkF w su mx cf nu ad ac md dn (tb &&& 17592186044415)).2 tb su mx cf nu) t.heap ∧ va_K (dC, dI) vwCl [(cL, .long), (cI, .int)] t ∧ va_D (va_A (wPW cL cI q0 qw qr qc qn w tb su mx cf nu) hz) (wPW cL cI q0 qw qr qc qn (k_walkF w su mx cf nu ad ac md dn (tb &&& 17592186044415)).2 tb su mx cf nu)) (va_A (wPW cL cI q0 qw qr qc qn w tb su mx cf nu) hz)) 0 0 (va_A (wPW cL cI q0 qw qr qc qn w tb su mx cf nu) hz) := by
  refine Met.ofW (cc := cX1_walk) (maxL := 13) (ret := (some .long)) (by decide) rfl ?_
  intro p e s m args below meth c s₁ B hml hv
  obtain ⟨rfl, hsz, hP, hK, hD0⟩ := hv
  have hx := B.exec
  have hb := B.bytes
  have hr := B.returns
  have hts := atoms_spec (ws := wsX1_walk) B.pre
  have hown : s.vm.findClass RX1 = some m.cls := findClass_of_methodNamed B.named
  have hlocks := B.notSynchronized
  subst hsz
  have hD := hD0.self (sz := s.heap.size)
  generalize hAe : va_A (wPW cL cI q0 qw qr qc qn w tb su mx cf nu) s.heap.size = A at hD ⊢
  have hA : ∀ q : Nat, s.heap.size ≤ q → A q := fun q h => by rw [← hAe]; exact Or.inr h
  have hS : va_S A s.heap s.heap [] := va_S.rf
  have hP : va_P (dC, dI) vwCl [(q0, .inr (1, [.ref qw, .ref qr, .long tb, .int (b2i su), .int (b2i mx)])), (qw, .inl (cL, 8192, .inr (.inl w))), (qr, .inr (0, [.ref qc, .ref qn])), (qc, .inl (cI, 8, .inl cf)), (qn, .inl (cL, 8, .inr (.inl nu)))] s.heap := hP
  have hD : va_D A [(q0, .inr (1, [.ref qw, .ref qr, .long tb, .int (b2i su), .int (b2i mx)])), (qw, .inl (cL, 8192, .inr (.inl w))), (qr, .inr (0, [.ref qc, .ref qn])), (qc, .inl (cI, 8, .inl cf)), (qn, .inl (cL, 8, .inr (.inl nu)))] := hD
  have hl := lv_entry ([.ref q0, .long ad, .int ac, .int md, .int (nI dn)]) (n := 13) (Nat.le_of_ble_eq_true rfl)
  rw [lg_entry_eq]
  generalize (lg_sl ([.ref q0, .long ad, .int ac, .int md, .int (nI dn)]) ++ List.replicate (13 - (lg_sl ([.ref q0, .long ad, .int ac, .int md, .int (nI dn)])).length) Slot.unset).toArray = ls at hl ⊢
  have hl : lv_has ls 13 [(0, .ref q0), (1, .long ad), (3, .int ac), (4, .int md), (5, .int (nI dn))] := hl
  have loop : ∀ (n : Nat) (pg : Int64) (ls : Array Slot), n ≤ 4 → k_walkF w su mx cf nu ad ac md n pg = k_walkF w su mx cf nu ad ac md dn (tb &&& 17592186044415) → lv_has ls 13 [(0, .ref q0), (1, .long ad), (3, .int ac), (4, .int md), (6, .long pg), (8, .int (nI n - 1))] → W p l e (headSpec wsX1_walk ({ frames := 4, cells := 0, slots := 0, locals := 108 })).room s m (([.ref q0, .long ad, .int ac, .int md, .int (nI dn)] : List Value).toArray) below meth c s.heap [] 0 0 (MQ below (va_Ql (fun r (_ : Unit) => r = (k_walkF w su mx cf nu ad ac md dn (tb &&& 17592186044415)).1) (fun _ t => va_P (dC, dI) vwCl (wPW cL cI q0 qw qr qc qn (k_walkF w su mx cf nu ad ac md dn (tb &&& 17592186044415)).2 tb su mx cf nu) t.heap ∧ va_K (dC, dI) vwCl [(cL, .long), (cI, .int)] t ∧ va_D A (wPW cL cI q0 qw qr qc qn (k_walkF w su mx cf nu ad ac md dn (tb &&& 17592186044415)).2 tb su mx cf nu)) A) (([.ref q0, .long ad, .int ac, .int md, .int (nI dn)] : List Value).toArray) s 0 0 A) (F0 m 16 ls []) := by
    intro n
    induction n with
    | zero =>
      intro pg ls hn4 hq hl
      refine lv_iload hx hb dX1_walk_16 (lv_at hl 5 rfl) ?_
      refine lv_if_lt (tgt := 150) hx hb dX1_walk_18 (by decide) (fun c_1 => ?_) (fun c_1 => ?_)
      · refine lv_iload_n hx hb dX1_walk_150 rfl (lv_at hl 2 rfl) ?_
        refine vp_callSl (W.runS (As := [.int ac]) (rest := []) ⟨hx, hb, hml, hown, hts⟩ (mtX1_pageFault l ac) (va_cwS 1 hts (gAll (mc1 (wa 269 (by decide +kernel) rfl) (mc1 (wa 270 (by decide +kernel) rfl) (mc1 (wa 15 (by decide +kernel) rfl) mc0))) (wa 271 (by decide +kernel) rfl) (by decide +kernel)) rfl rfl rfl (by decide +kernel) ⟨Nat.le_of_ble_eq_true rfl, Nat.le_of_ble_eq_true rfl⟩) preEq rfl rfl hl.1 rfl (lv_room (Nat.le_of_ble_eq_true rfl)) dX1_walk_151 ⟨Nat.le_of_ble_eq_true rfl, Nat.le_of_ble_eq_true rfl⟩) (fun r_2 er_2 => ?_)
        have er_2 : r_2 = (k_pageFault ac) := er_2
        subst er_2
        have w9_0 : (k_walkF w su mx cf nu ad ac md dn (tb &&& 17592186044415)).2 = w := (by first | rfl | (rw [← hq]; simp only [k_walkF, k_last, c_1, b2i, decide_true, decide_false, Bool.not_true, Bool.not_false, Bool.and_true, Bool.and_false, Bool.true_and, Bool.false_and, Bool.or_true, Bool.or_false, Bool.true_or, Bool.false_or, reduceIte, or_true, true_or, or_false, false_or, and_true, true_and, and_false, false_and, not_true_eq_false, not_false_eq_true, Bool.false_eq_true, eq_self]; done) | (rw [← hq]; simp [k_walkF, k_last, c_1]; done))
        have hP9 : va_P (dC, dI) vwCl (wPW cL cI q0 qw qr qc qn (k_walkF w su mx cf nu ad ac md dn (tb &&& 17592186044415)).2 tb su mx cf nu) s.heap := (by rw [w9_0]; exact hP)
        have hD9 : va_D A (wPW cL cI q0 qw qr qc qn (k_walkF w su mx cf nu ad ac md dn (tb &&& 17592186044415)).2 tb su mx cf nu) := (by rw [w9_0]; exact hD)
        exact W.lret (v := (k_pageFault ac)) hx hb hr (fun t ht hW => ⟨⟨(k_pageFault ac), (), rfl, (by first | rfl | (rw [← hq]; simp only [k_walkF, k_last, c_1, b2i, decide_true, decide_false, Bool.not_true, Bool.not_false, Bool.and_true, Bool.and_false, Bool.true_and, Bool.false_and, Bool.or_true, Bool.or_false, Bool.true_or, Bool.false_or, reduceIte, or_true, true_or, or_false, false_or, and_true, true_and, and_false, false_and, not_true_eq_false, not_false_eq_true, Bool.false_eq_true, eq_self]; done) | (rw [← hq]; simp [k_walkF, k_last, c_1]; done)), (by rw [ht]; exact hP9), va_K.moved hW.alike hK, hD9⟩, hS.F ht⟩) hS.2.2 dX1_walk_154
      · exact absurd (by decide) c_1
    | succ n ih =>
      intro pg ls hn4 hq hl
      rw [nI_pred] at hl
      refine lv_iload hx hb dX1_walk_16 (lv_at hl 5 rfl) ?_
      refine lv_if_lt (tgt := 150) hx hb dX1_walk_18 (by decide) (fun c_3 => ?_) (fun c_3 => ?_)
      · exact absurd c_3 (nI_pos (by omega))
      · refine lv_lload hx hb dX1_walk_21 (lv_at hl 4 rfl) ?_
        refine lv_lload_n hx hb dX1_walk_23 rfl (lv_at hl 1 rfl) ?_
        refine lv_iload hx hb dX1_walk_24 (lv_at hl 5 rfl) ?_
        refine vp_callSl (W.runS (As := [.long pg, .long ad, .int (nI n)]) (rest := []) ⟨hx, hb, hml, hown, hts⟩ (mtX1_entryPlace l pg ad (nI n)) (va_cwS 3 hts (gAll (mc1 (wa 280 (by decide +kernel) rfl) (mc1 (wa 281 (by decide +kernel) rfl) (mc1 (wa 15 (by decide +kernel) rfl) mc0))) (wa 282 (by decide +kernel) rfl) (by decide +kernel)) rfl rfl rfl (by decide +kernel) ⟨Nat.le_of_ble_eq_true rfl, Nat.le_of_ble_eq_true rfl⟩) preEq rfl rfl hl.1 rfl (lv_room (Nat.le_of_ble_eq_true rfl)) dX1_walk_26 ⟨Nat.le_of_ble_eq_true rfl, Nat.le_of_ble_eq_true rfl⟩) (fun r_4 er_4 => ?_)
        have er_4 : r_4 = (k_entryPlace pg ad (nI n)) := er_4
        subst er_4
        refine lv_lstore (lv' := [(9, .long (k_entryPlace pg ad (nI n))), (0, .ref q0), (1, .long ad), (3, .int ac), (4, .int md), (6, .long pg), (8, .int (nI n))]) hx hb dX1_walk_29 hl (by decide) rfl (fun ls hl => ?_)
        refine lv_lload hx hb dX1_walk_31 (lv_at hl 0 rfl) ?_
        refine vp_callSi (W.runS (As := [.long (k_entryPlace pg ad (nI n))]) (rest := []) ⟨hx, hb, hml, hown, hts⟩ (mtX1_wordIndex l (k_entryPlace pg ad (nI n))) (va_cwS 1 hts (gAll (mc1 (wa 104 (by decide +kernel) rfl) (mc1 (wa 105 (by decide +kernel) rfl) (mc1 (wa 15 (by decide +kernel) rfl) mc0))) (wa 106 (by decide +kernel) rfl) (by decide +kernel)) rfl rfl rfl (by decide +kernel) ⟨Nat.le_of_ble_eq_true rfl, Nat.le_of_ble_eq_true rfl⟩) preEq rfl rfl hl.1 rfl (lv_room (Nat.le_of_ble_eq_true rfl)) dX1_walk_33 ⟨Nat.le_of_ble_eq_true rfl, Nat.le_of_ble_eq_true rfl⟩) (fun r_5 er_5 => ?_)
        have er_5 : r_5 = (k_wordIndex (k_entryPlace pg ad (nI n))) := er_5
        subst er_5
        refine lv_iconst (v := (-1)) hx hb dX1_walk_36 (by decide) ?_
        refine lv_icmp_eq (tgt := 56) hx hb dX1_walk_37 (by decide) (fun c_6 => ?_) (fun c_6 => ?_)
        · refine lv_iload_n hx hb dX1_walk_56 rfl (lv_at hl 3 rfl) ?_
          refine vp_callSl (W.runS (As := [.int ac]) (rest := []) ⟨hx, hb, hml, hown, hts⟩ (mtX1_accessFault l ac) (va_cwS 1 hts (gAll (mc1 (wa 263 (by decide +kernel) rfl) (mc1 (wa 264 (by decide +kernel) rfl) (mc1 (wa 15 (by decide +kernel) rfl) mc0))) (wa 265 (by decide +kernel) rfl) (by decide +kernel)) rfl rfl rfl (by decide +kernel) ⟨Nat.le_of_ble_eq_true rfl, Nat.le_of_ble_eq_true rfl⟩) preEq rfl rfl hl.1 rfl (lv_room (Nat.le_of_ble_eq_true rfl)) dX1_walk_57 ⟨Nat.le_of_ble_eq_true rfl, Nat.le_of_ble_eq_true rfl⟩) (fun r_7 er_7 => ?_)
          have er_7 : r_7 = (k_accessFault ac) := er_7
          subst er_7
          have w9_0 : (k_walkF w su mx cf nu ad ac md dn (tb &&& 17592186044415)).2 = w := (by first | rfl | (rw [← hq]; simp only [k_walkF, k_last, c_3, c_6, b2i, decide_true, decide_false, Bool.not_true, Bool.not_false, Bool.and_true, Bool.and_false, Bool.true_and, Bool.false_and, Bool.or_true, Bool.or_false, Bool.true_or, Bool.false_or, reduceIte, or_true, true_or, or_false, false_or, and_true, true_and, and_false, false_and, not_true_eq_false, not_false_eq_true, Bool.false_eq_true, eq_self]; done) | (rw [← hq]; simp [k_walkF, k_last, c_3, c_6]; done))
          have hP9 : va_P (dC, dI) vwCl (wPW cL cI q0 qw qr qc qn (k_walkF w su mx cf nu ad ac md dn (tb &&& 17592186044415)).2 tb su mx cf nu) s.heap := (by rw [w9_0]; exact hP)
          have hD9 : va_D A (wPW cL cI q0 qw qr qc qn (k_walkF w su mx cf nu ad ac md dn (tb &&& 17592186044415)).2 tb su mx cf nu) := (by rw [w9_0]; exact hD)
          exact W.lret (v := (k_accessFault ac)) hx hb hr (fun t ht hW => ⟨⟨(k_accessFault ac), (), rfl, (by first | rfl | (rw [← hq]; simp only [k_walkF, k_last, c_3, c_6, b2i, decide_true, decide_false, Bool.not_true, Bool.not_false, Bool.and_true, Bool.and_false, Bool.true_and, Bool.false_and, Bool.or_true, Bool.or_false, Bool.true_or, Bool.false_or, reduceIte, or_true, true_or, or_false, false_or, and_true, true_and, and_false, false_and, not_true_eq_false, not_false_eq_true, Bool.false_eq_true, eq_self]; done) | (rw [← hq]; simp [k_walkF, k_last, c_3, c_6]; done)), (by rw [ht]; exact hP9), va_K.moved hW.alike hK, hD9⟩, hS.F ht⟩) hS.2.2 dX1_walk_60
        · refine lv_aload_n hx hb dX1_walk_40 rfl (lv_at hl 1 rfl) ?_
          refine va_get (D := (dC, dI)) (ci := 1) (v := .ref qr) (C := RX1) (T := TX1) (N := 5) hx hb hts iwX1 hown hK hP 0 rfl rfl 1 (by decide) (hts (.fieldLink RX1 16 RX1 "regions" "LPageWalker$Regions;") (wa 47 (by decide +kernel) rfl)) (fun _ h9 => h9) rfl dX1_walk_41 ?_
          refine lv_lload hx hb dX1_walk_44 (lv_at hl 0 rfl) ?_
          refine lv_iconst (v := 1) hx hb dX1_walk_46 (by decide) ?_
          refine lv_iconst (v := 1) hx hb dX1_walk_47 (by decide) ?_
          refine lv_bipush (v := 8) hx hb dX1_walk_48 (by decide) ?_
          refine vp_callSi (W.runV (As := [.long (k_entryPlace pg ad (nI n)), .int 1, .int 1, .int 8]) (rest := []) ⟨hx, hb, hml, hown, hts⟩ (mtX0_letThrough l dC dI cL cI qr qc qn cf nu (k_entryPlace pg ad (nI n)) 1 1 8 ) (cwV 4 hts (gAll (mc1 (wa 287 (by decide +kernel) rfl) (mc1 (wa 288 (by decide +kernel) rfl) (mc1 (wa 289 (by decide +kernel) rfl) (mc1 (wa 16 (by decide +kernel) rfl) mc0)))) (wa 290 (by decide +kernel) rfl) (by decide +kernel)) rfl rfl rfl (by decide +kernel) ⟨Nat.le_of_ble_eq_true rfl, Nat.le_of_ble_eq_true rfl⟩) (rd_pre (ci := 0) (q0 := 0) hK (hP.sub (ws' := (wRG cL cI qr qc qn cf nu)) [2, 3, 4] rfl) rfl rfl) rfl rfl hl.1 rfl (lv_room (Nat.le_of_ble_eq_true rfl)) dX1_walk_50 ⟨Nat.le_of_ble_eq_true rfl, Nat.le_of_ble_eq_true rfl⟩) (fun r_8 er_8 => ?_)
          have er_8 : r_8 = (b2i (k_let cf nu (k_entryPlace pg ad (nI n)) 1 1 8)) := er_8
          subst er_8
          refine lv_if_ne (tgt := 61) hx hb dX1_walk_53 (by decide) (fun c_9 => ?_) (fun c_9 => ?_)
          · rw [b2i_z] at c_9
            rw [Bool.not_eq_false] at c_9
            refine lv_aload_n hx hb dX1_walk_61 rfl (lv_at hl 1 rfl) ?_
            refine lv_lload hx hb dX1_walk_62 (lv_at hl 0 rfl) ?_
            refine vp_callSl (W.runV (As := [.long (k_entryPlace pg ad (nI n))]) (rest := []) ⟨hx, hb, hml, hown, hts⟩ (mtX1_word l dC dI cL cI q0 qw qr qc qn w tb su mx cf nu (k_entryPlace pg ad (nI n)) (c_6)) (cwV 1 hts (gAll (mc1 (wa 301 (by decide +kernel) rfl) (mc1 (wa 101 (by decide +kernel) rfl) (mc1 (wa 102 (by decide +kernel) rfl) (mc1 (wa 15 (by decide +kernel) rfl) mc0)))) (wa 103 (by decide +kernel) rfl) (by decide +kernel)) rfl rfl rfl (by decide +kernel) ⟨Nat.le_of_ble_eq_true rfl, Nat.le_of_ble_eq_true rfl⟩) (rd_pre (ci := 1) (q0 := 0) hK hP rfl rfl) rfl rfl hl.1 rfl (lv_room (Nat.le_of_ble_eq_true rfl)) dX1_walk_64 ⟨Nat.le_of_ble_eq_true rfl, Nat.le_of_ble_eq_true rfl⟩) (fun r_10 er_10 => ?_)
            have er_10 : r_10 = (k_at w (k_entryPlace pg ad (nI n))) := er_10
            subst er_10
            refine lv_lstore (lv' := [(11, .long (k_at w (k_entryPlace pg ad (nI n)))), (9, .long (k_entryPlace pg ad (nI n))), (0, .ref q0), (1, .long ad), (3, .int ac), (4, .int md), (6, .long pg), (8, .int (nI n))]) hx hb dX1_walk_67 hl (by decide) rfl (fun ls hl => ?_)
            refine lv_lload hx hb dX1_walk_69 (lv_at hl 0 rfl) ?_
            refine vp_callSi (W.runS (As := [.long (k_at w (k_entryPlace pg ad (nI n)))]) (rest := []) ⟨hx, hb, hml, hown, hts⟩ (mtX1_isMalformed l (k_at w (k_entryPlace pg ad (nI n)))) (va_cwS 1 hts (gAll (mc1 (wa 302 (by decide +kernel) rfl) (mc1 (wa 303 (by decide +kernel) rfl) (mc1 (wa 15 (by decide +kernel) rfl) mc0))) (wa 304 (by decide +kernel) rfl) (by decide +kernel)) rfl rfl rfl (by decide +kernel) ⟨Nat.le_of_ble_eq_true rfl, Nat.le_of_ble_eq_true rfl⟩) preEq rfl rfl hl.1 rfl (lv_room (Nat.le_of_ble_eq_true rfl)) dX1_walk_71 ⟨Nat.le_of_ble_eq_true rfl, Nat.le_of_ble_eq_true rfl⟩) (fun r_11 er_11 => ?_)
            have er_11 : r_11 = (b2i (k_isMalformed (k_at w (k_entryPlace pg ad (nI n))))) := er_11
            subst er_11
            refine lv_if_eq (tgt := 82) hx hb dX1_walk_74 (by decide) (fun c_12 => ?_) (fun c_12 => ?_)
            · rw [b2i_z] at c_12
              refine lv_lload hx hb dX1_walk_82 (lv_at hl 0 rfl) ?_
              refine vp_callSi (W.runS (As := [.long (k_at w (k_entryPlace pg ad (nI n)))]) (rest := []) ⟨hx, hb, hml, hown, hts⟩ (mtX1_isLast l (k_at w (k_entryPlace pg ad (nI n)))) (va_cwS 1 hts (gAll (mc1 (wa 310 (by decide +kernel) rfl) (mc1 (wa 311 (by decide +kernel) rfl) (mc1 (wa 15 (by decide +kernel) rfl) mc0))) (wa 312 (by decide +kernel) rfl) (by decide +kernel)) rfl rfl rfl (by decide +kernel) ⟨Nat.le_of_ble_eq_true rfl, Nat.le_of_ble_eq_true rfl⟩) preEq rfl rfl hl.1 rfl (lv_room (Nat.le_of_ble_eq_true rfl)) dX1_walk_84 ⟨Nat.le_of_ble_eq_true rfl, Nat.le_of_ble_eq_true rfl⟩) (fun r_13 er_13 => ?_)
              have er_13 : r_13 = (b2i (k_isLast (k_at w (k_entryPlace pg ad (nI n))))) := er_13
              subst er_13
              refine lv_if_eq (tgt := 137) hx hb dX1_walk_87 (by decide) (fun c_14 => ?_) (fun c_14 => ?_)
              · rw [b2i_z] at c_14
                refine lv_lload hx hb dX1_walk_137 (lv_at hl 0 rfl) ?_
                refine vp_callSl (W.runS (As := [.long (k_at w (k_entryPlace pg ad (nI n)))]) (rest := []) ⟨hx, hb, hml, hown, hts⟩ (mtX1_pageNumber l (k_at w (k_entryPlace pg ad (nI n)))) (va_cwS 1 hts (gAll (mc1 (wa 319 (by decide +kernel) rfl) (mc1 (wa 320 (by decide +kernel) rfl) (mc1 (wa 15 (by decide +kernel) rfl) mc0))) (wa 321 (by decide +kernel) rfl) (by decide +kernel)) rfl rfl rfl (by decide +kernel) ⟨Nat.le_of_ble_eq_true rfl, Nat.le_of_ble_eq_true rfl⟩) preEq rfl rfl hl.1 rfl (lv_room (Nat.le_of_ble_eq_true rfl)) dX1_walk_139 ⟨Nat.le_of_ble_eq_true rfl, Nat.le_of_ble_eq_true rfl⟩) (fun r_15 er_15 => ?_)
                have er_15 : r_15 = (k_pageNumber (k_at w (k_entryPlace pg ad (nI n)))) := er_15
                subst er_15
                refine lv_lstore (lv' := [(6, .long (k_pageNumber (k_at w (k_entryPlace pg ad (nI n))))), (11, .long (k_at w (k_entryPlace pg ad (nI n)))), (9, .long (k_entryPlace pg ad (nI n))), (0, .ref q0), (1, .long ad), (3, .int ac), (4, .int md), (8, .int (nI n))]) hx hb dX1_walk_142 hl (by decide) rfl (fun ls hl => ?_)
                refine lv_iinc (v := ((nI n) + (-1))) (lv' := [(8, .int ((nI n) + (-1))), (6, .long (k_pageNumber (k_at w (k_entryPlace pg ad (nI n))))), (11, .long (k_at w (k_entryPlace pg ad (nI n)))), (9, .long (k_entryPlace pg ad (nI n))), (0, .ref q0), (1, .long ad), (3, .int ac), (4, .int md)]) hx hb dX1_walk_144 hl (k := 7) rfl rfl (by decide) rfl (fun ls hl => ?_)
                refine lv_goto (tgt := 16) hx hb dX1_walk_147 (by decide) ?_
                rw [show nI n + (-1) = nI n - 1 from (Int32.sub_eq_add_neg ..).symm] at hl
                exact ih _ ls (by omega) (by rw [← hq]; simp [k_walkF, c_3, c_6, c_9, c_12, c_14]) (lv_sub hl [4, 5, 6, 7, 1, 0] rfl)
              · rw [b2i_z] at c_14
                rw [Bool.not_eq_false] at c_14
                refine lv_aload_n hx hb dX1_walk_90 rfl (lv_at hl 2 rfl) ?_
                refine lv_lload hx hb dX1_walk_91 (lv_at hl 0 rfl) ?_
                refine lv_iload_n hx hb dX1_walk_93 rfl (lv_at hl 4 rfl) ?_
                refine lv_iload hx hb dX1_walk_94 (lv_at hl 5 rfl) ?_
                refine lv_iload hx hb dX1_walk_96 (lv_at hl 7 rfl) ?_
                refine vp_callSi (W.runV (As := [.long (k_at w (k_entryPlace pg ad (nI n))), .int ac, .int md, .int (nI n)]) (rest := []) ⟨hx, hb, hml, hown, hts⟩ (mtX1_grants l dC dI cL cI q0 qw qr qc qn w tb su mx cf nu (k_at w (k_entryPlace pg ad (nI n))) ac md (nI n) ) (cwV 4 hts (gAll (mc1 (wa 315 (by decide +kernel) rfl) (mc1 (wa 317 (by decide +kernel) rfl) (mc1 (wa 3 (by decide +kernel) rfl) (mc1 (wa 15 (by decide +kernel) rfl) mc0)))) (wa 318 (by decide +kernel) rfl) (by decide +kernel)) rfl rfl rfl (by decide +kernel) ⟨Nat.le_of_ble_eq_true rfl, Nat.le_of_ble_eq_true rfl⟩) (rd_pre (ci := 1) (q0 := 0) hK hP rfl rfl) rfl rfl hl.1 rfl (lv_room (Nat.le_of_ble_eq_true rfl)) dX1_walk_98 ⟨Nat.le_of_ble_eq_true rfl, Nat.le_of_ble_eq_true rfl⟩) (fun r_16 er_16 => ?_)
                have er_16 : r_16 = (b2i (k_grants su mx (k_at w (k_entryPlace pg ad (nI n))) ac md (nI n))) := er_16
                subst er_16
                refine lv_if_ne (tgt := 109) hx hb dX1_walk_101 (by decide) (fun c_17 => ?_) (fun c_17 => ?_)
                · rw [b2i_z] at c_17
                  rw [Bool.not_eq_false] at c_17
                  refine lv_aload_n hx hb dX1_walk_109 rfl (lv_at hl 2 rfl) ?_
                  refine lv_lload hx hb dX1_walk_110 (lv_at hl 1 rfl) ?_
                  refine lv_lload hx hb dX1_walk_112 (lv_at hl 0 rfl) ?_
                  refine lv_iload_n hx hb dX1_walk_114 rfl (lv_at hl 4 rfl) ?_
                  have hPc := hP.sub (ws' := (wPW cL cI q0 qw qr qc qn w tb su mx cf nu)) [0, 1, 2, 3, 4] rfl
                  have hDc := hD.sub (ws' := (wPW cL cI q0 qw qr qc qn w tb su mx cf nu)) [0, 1, 2, 3, 4] (by decide) rfl
                  have hFc := va_free (wc := (wPW cL cI q0 qw qr qc qn w tb su mx cf nu)) hD hS hA [0, 1, 2, 3, 4] rfl
                  refine va_calli (va_runV (As := [.long (k_entryPlace pg ad (nI n)), .long (k_at w (k_entryPlace pg ad (nI n))), .int ac]) (rest := []) ⟨hx, hb, hml, hown, hts⟩ (mtX1_mark l dC dI cL cI q0 qw qr qc qn w tb su mx cf nu s.heap.size (k_entryPlace pg ad (nI n)) (k_at w (k_entryPlace pg ad (nI n))) ac (c_6)) (cwV 3 hts (gAll (mc1 (wa 331 (by decide +kernel) rfl) (mc1 (wa 333 (by decide +kernel) rfl) (mc1 (wa 6 (by decide +kernel) rfl) (mc1 (wa 15 (by decide +kernel) rfl) mc0)))) (wa 334 (by decide +kernel) rfl) (by decide +kernel)) rfl rfl rfl (by decide +kernel) ⟨Nat.le_of_ble_eq_true rfl, Nat.le_of_ble_eq_true rfl⟩) (mu_pre (ci := 1) (q0 := 0) hK hPc hDc rfl rfl) rfl rfl hl.1 rfl (lv_room (Nat.le_of_ble_eq_true rfl)) dX1_walk_115 ⟨Nat.le_of_ble_eq_true rfl, Nat.le_of_ble_eq_true rfl⟩) hS (fun q _ h => hFc q h) hFc (fun r_18 u t H1 locs ht hvm hw hB hz1 hk1 hS => ?_)
                  obtain ⟨hP1, hK1, hD1⟩ := hB
                  rw [ht] at hP1
                  obtain ⟨hP, hD⟩ := va_join (wr := []) (w1 := (wPW cL cI q0 qw qr qc qn (k_mark w cf nu (k_entryPlace pg ad (nI n)) (k_at w (k_entryPlace pg ad (nI n))) ac).2 tb su mx cf nu)) hP hD [0, 1, 2, 3, 4] [] rfl rfl (by decide) (by decide) hk1 hFc hP1 hD1
                  generalize H1 = H at hP hS ⊢
                  have hP : va_P (dC, dI) vwCl [(q0, .inr (1, [.ref qw, .ref qr, .long tb, .int (b2i su), .int (b2i mx)])), (qw, .inl (cL, 8192, .inr (.inl (k_mark w cf nu (k_entryPlace pg ad (nI n)) (k_at w (k_entryPlace pg ad (nI n))) ac).2))), (qr, .inr (0, [.ref qc, .ref qn])), (qc, .inl (cI, 8, .inl cf)), (qn, .inl (cL, 8, .inr (.inl nu)))] H := hP
                  have hD : va_D A [(q0, .inr (1, [.ref qw, .ref qr, .long tb, .int (b2i su), .int (b2i mx)])), (qw, .inl (cL, 8192, .inr (.inl (k_mark w cf nu (k_entryPlace pg ad (nI n)) (k_at w (k_entryPlace pg ad (nI n))) ac).2))), (qr, .inr (0, [.ref qc, .ref qn])), (qc, .inl (cI, 8, .inl cf)), (qn, .inl (cL, 8, .inr (.inl nu)))] := hD
                  have er_18 : r_18 = (b2i (k_mark w cf nu (k_entryPlace pg ad (nI n)) (k_at w (k_entryPlace pg ad (nI n))) ac).1) := hw
                  subst er_18
                  refine lv_if_eq (tgt := 132) hx hb dX1_walk_118 (by decide) (fun c_19 => ?_) (fun c_19 => ?_)
                  · rw [b2i_z] at c_19
                    refine lv_iload_n hx hb dX1_walk_132 rfl (lv_at hl 4 rfl) ?_
                    refine vp_callSl (W.runS (As := [.int ac]) (rest := []) ⟨hx, hb, hml, hown, hts⟩ (mtX1_accessFault l ac) (va_cwS 1 hts (gAll (mc1 (wa 263 (by decide +kernel) rfl) (mc1 (wa 264 (by decide +kernel) rfl) (mc1 (wa 15 (by decide +kernel) rfl) mc0))) (wa 265 (by decide +kernel) rfl) (by decide +kernel)) rfl rfl rfl (by decide +kernel) ⟨Nat.le_of_ble_eq_true rfl, Nat.le_of_ble_eq_true rfl⟩) preEq rfl rfl hl.1 rfl (lv_room (Nat.le_of_ble_eq_true rfl)) dX1_walk_133 ⟨Nat.le_of_ble_eq_true rfl, Nat.le_of_ble_eq_true rfl⟩) (fun r_20 er_20 => ?_)
                    have er_20 : r_20 = (k_accessFault ac) := er_20
                    subst er_20
                    have w9_0 : (k_walkF w su mx cf nu ad ac md dn (tb &&& 17592186044415)).2 = (k_mark w cf nu (k_entryPlace pg ad (nI n)) (k_at w (k_entryPlace pg ad (nI n))) ac).2 := (by first | rfl | (rw [← hq]; simp only [k_walkF, k_last, c_3, c_6, c_9, c_12, c_14, c_17, c_19, b2i, decide_true, decide_false, Bool.not_true, Bool.not_false, Bool.and_true, Bool.and_false, Bool.true_and, Bool.false_and, Bool.or_true, Bool.or_false, Bool.true_or, Bool.false_or, reduceIte, or_true, true_or, or_false, false_or, and_true, true_and, and_false, false_and, not_true_eq_false, not_false_eq_true, Bool.false_eq_true, eq_self]; done) | (rw [← hq]; simp [k_walkF, k_last, c_3, c_6, c_9, c_12, c_14, c_17, c_19]; done))
                    have hP9 : va_P (dC, dI) vwCl (wPW cL cI q0 qw qr qc qn (k_walkF w su mx cf nu ad ac md dn (tb &&& 17592186044415)).2 tb su mx cf nu) H := (by rw [w9_0]; exact hP)
                    have hD9 : va_D A (wPW cL cI q0 qw qr qc qn (k_walkF w su mx cf nu ad ac md dn (tb &&& 17592186044415)).2 tb su mx cf nu) := (by rw [w9_0]; exact hD)
                    exact W.lret (v := (k_accessFault ac)) hx hb hr (fun t ht hW => ⟨⟨(k_accessFault ac), (), rfl, (by first | rfl | (rw [← hq]; simp only [k_walkF, k_last, c_3, c_6, c_9, c_12, c_14, c_17, c_19, b2i, decide_true, decide_false, Bool.not_true, Bool.not_false, Bool.and_true, Bool.and_false, Bool.true_and, Bool.false_and, Bool.or_true, Bool.or_false, Bool.true_or, Bool.false_or, reduceIte, or_true, true_or, or_false, false_or, and_true, true_and, and_false, false_and, not_true_eq_false, not_false_eq_true, Bool.false_eq_true, eq_self]; done) | (rw [← hq]; simp [k_walkF, k_last, c_3, c_6, c_9, c_12, c_14, c_17, c_19]; done)), (by rw [ht]; exact hP9), va_K.moved hW.alike hK, hD9⟩, hS.F ht⟩) hS.2.2 dX1_walk_136
                  · rw [b2i_z] at c_19
                    rw [Bool.not_eq_false] at c_19
                    refine lv_lload hx hb dX1_walk_121 (lv_at hl 0 rfl) ?_
                    refine lv_lload_n hx hb dX1_walk_123 rfl (lv_at hl 3 rfl) ?_
                    refine lv_iload hx hb dX1_walk_124 (lv_at hl 7 rfl) ?_
                    refine vp_callSl (W.runS (As := [.long (k_at w (k_entryPlace pg ad (nI n))), .long ad, .int (nI n)]) (rest := []) ⟨hx, hb, hml, hown, hts⟩ (mtX1_target l (k_at w (k_entryPlace pg ad (nI n))) ad (nI n)) (va_cwS 3 hts (gAll (mc1 (wa 338 (by decide +kernel) rfl) (mc1 (wa 339 (by decide +kernel) rfl) (mc1 (wa 15 (by decide +kernel) rfl) mc0))) (wa 340 (by decide +kernel) rfl) (by decide +kernel)) rfl rfl rfl (by decide +kernel) ⟨Nat.le_of_ble_eq_true rfl, Nat.le_of_ble_eq_true rfl⟩) preEq rfl rfl hl.1 rfl (lv_room (Nat.le_of_ble_eq_true rfl)) dX1_walk_126 ⟨Nat.le_of_ble_eq_true rfl, Nat.le_of_ble_eq_true rfl⟩) (fun r_21 er_21 => ?_)
                    have er_21 : r_21 = (k_target (k_at w (k_entryPlace pg ad (nI n))) ad (nI n)) := er_21
                    subst er_21
                    refine lv_goto (tgt := 136) hx hb dX1_walk_129 (by decide) ?_
                    have w9_0 : (k_walkF w su mx cf nu ad ac md dn (tb &&& 17592186044415)).2 = (k_mark w cf nu (k_entryPlace pg ad (nI n)) (k_at w (k_entryPlace pg ad (nI n))) ac).2 := (by first | rfl | (rw [← hq]; simp only [k_walkF, k_last, c_3, c_6, c_9, c_12, c_14, c_17, c_19, b2i, decide_true, decide_false, Bool.not_true, Bool.not_false, Bool.and_true, Bool.and_false, Bool.true_and, Bool.false_and, Bool.or_true, Bool.or_false, Bool.true_or, Bool.false_or, reduceIte, or_true, true_or, or_false, false_or, and_true, true_and, and_false, false_and, not_true_eq_false, not_false_eq_true, Bool.false_eq_true, eq_self]; done) | (rw [← hq]; simp [k_walkF, k_last, c_3, c_6, c_9, c_12, c_14, c_17, c_19]; done))
                    have hP9 : va_P (dC, dI) vwCl (wPW cL cI q0 qw qr qc qn (k_walkF w su mx cf nu ad ac md dn (tb &&& 17592186044415)).2 tb su mx cf nu) H := (by rw [w9_0]; exact hP)
                    have hD9 : va_D A (wPW cL cI q0 qw qr qc qn (k_walkF w su mx cf nu ad ac md dn (tb &&& 17592186044415)).2 tb su mx cf nu) := (by rw [w9_0]; exact hD)
                    exact W.lret (v := (k_target (k_at w (k_entryPlace pg ad (nI n))) ad (nI n))) hx hb hr (fun t ht hW => ⟨⟨(k_target (k_at w (k_entryPlace pg ad (nI n))) ad (nI n)), (), rfl, (by first | rfl | (rw [← hq]; simp only [k_walkF, k_last, c_3, c_6, c_9, c_12, c_14, c_17, c_19, b2i, decide_true, decide_false, Bool.not_true, Bool.not_false, Bool.and_true, Bool.and_false, Bool.true_and, Bool.false_and, Bool.or_true, Bool.or_false, Bool.true_or, Bool.false_or, reduceIte, or_true, true_or, or_false, false_or, and_true, true_and, and_false, false_and, not_true_eq_false, not_false_eq_true, Bool.false_eq_true, eq_self]; done) | (rw [← hq]; simp [k_walkF, k_last, c_3, c_6, c_9, c_12, c_14, c_17, c_19]; done)), (by rw [ht]; exact hP9), va_K.moved hW.alike hK, hD9⟩, hS.F ht⟩) hS.2.2 dX1_walk_136
                · rw [b2i_z] at c_17
                  refine lv_iload_n hx hb dX1_walk_104 rfl (lv_at hl 4 rfl) ?_
                  refine vp_callSl (W.runS (As := [.int ac]) (rest := []) ⟨hx, hb, hml, hown, hts⟩ (mtX1_pageFault l ac) (va_cwS 1 hts (gAll (mc1 (wa 269 (by decide +kernel) rfl) (mc1 (wa 270 (by decide +kernel) rfl) (mc1 (wa 15 (by decide +kernel) rfl) mc0))) (wa 271 (by decide +kernel) rfl) (by decide +kernel)) rfl rfl rfl (by decide +kernel) ⟨Nat.le_of_ble_eq_true rfl, Nat.le_of_ble_eq_true rfl⟩) preEq rfl rfl hl.1 rfl (lv_room (Nat.le_of_ble_eq_true rfl)) dX1_walk_105 ⟨Nat.le_of_ble_eq_true rfl, Nat.le_of_ble_eq_true rfl⟩) (fun r_22 er_22 => ?_)
                  have er_22 : r_22 = (k_pageFault ac) := er_22
                  subst er_22
                  have w9_0 : (k_walkF w su mx cf nu ad ac md dn (tb &&& 17592186044415)).2 = w := (by first | rfl | (rw [← hq]; simp only [k_walkF, k_last, c_3, c_6, c_9, c_12, c_14, c_17, b2i, decide_true, decide_false, Bool.not_true, Bool.not_false, Bool.and_true, Bool.and_false, Bool.true_and, Bool.false_and, Bool.or_true, Bool.or_false, Bool.true_or, Bool.false_or, reduceIte, or_true, true_or, or_false, false_or, and_true, true_and, and_false, false_and, not_true_eq_false, not_false_eq_true, Bool.false_eq_true, eq_self]; done) | (rw [← hq]; simp [k_walkF, k_last, c_3, c_6, c_9, c_12, c_14, c_17]; done))
                  have hP9 : va_P (dC, dI) vwCl (wPW cL cI q0 qw qr qc qn (k_walkF w su mx cf nu ad ac md dn (tb &&& 17592186044415)).2 tb su mx cf nu) s.heap := (by rw [w9_0]; exact hP)
                  have hD9 : va_D A (wPW cL cI q0 qw qr qc qn (k_walkF w su mx cf nu ad ac md dn (tb &&& 17592186044415)).2 tb su mx cf nu) := (by rw [w9_0]; exact hD)
                  exact W.lret (v := (k_pageFault ac)) hx hb hr (fun t ht hW => ⟨⟨(k_pageFault ac), (), rfl, (by first | rfl | (rw [← hq]; simp only [k_walkF, k_last, c_3, c_6, c_9, c_12, c_14, c_17, b2i, decide_true, decide_false, Bool.not_true, Bool.not_false, Bool.and_true, Bool.and_false, Bool.true_and, Bool.false_and, Bool.or_true, Bool.or_false, Bool.true_or, Bool.false_or, reduceIte, or_true, true_or, or_false, false_or, and_true, true_and, and_false, false_and, not_true_eq_false, not_false_eq_true, Bool.false_eq_true, eq_self]; done) | (rw [← hq]; simp [k_walkF, k_last, c_3, c_6, c_9, c_12, c_14, c_17]; done)), (by rw [ht]; exact hP9), va_K.moved hW.alike hK, hD9⟩, hS.F ht⟩) hS.2.2 dX1_walk_108
            · rw [b2i_z] at c_12
              rw [Bool.not_eq_false] at c_12
              refine lv_iload_n hx hb dX1_walk_77 rfl (lv_at hl 4 rfl) ?_
              refine vp_callSl (W.runS (As := [.int ac]) (rest := []) ⟨hx, hb, hml, hown, hts⟩ (mtX1_pageFault l ac) (va_cwS 1 hts (gAll (mc1 (wa 269 (by decide +kernel) rfl) (mc1 (wa 270 (by decide +kernel) rfl) (mc1 (wa 15 (by decide +kernel) rfl) mc0))) (wa 271 (by decide +kernel) rfl) (by decide +kernel)) rfl rfl rfl (by decide +kernel) ⟨Nat.le_of_ble_eq_true rfl, Nat.le_of_ble_eq_true rfl⟩) preEq rfl rfl hl.1 rfl (lv_room (Nat.le_of_ble_eq_true rfl)) dX1_walk_78 ⟨Nat.le_of_ble_eq_true rfl, Nat.le_of_ble_eq_true rfl⟩) (fun r_23 er_23 => ?_)
              have er_23 : r_23 = (k_pageFault ac) := er_23
              subst er_23
              have w9_0 : (k_walkF w su mx cf nu ad ac md dn (tb &&& 17592186044415)).2 = w := (by first | rfl | (rw [← hq]; simp only [k_walkF, k_last, c_3, c_6, c_9, c_12, b2i, decide_true, decide_false, Bool.not_true, Bool.not_false, Bool.and_true, Bool.and_false, Bool.true_and, Bool.false_and, Bool.or_true, Bool.or_false, Bool.true_or, Bool.false_or, reduceIte, or_true, true_or, or_false, false_or, and_true, true_and, and_false, false_and, not_true_eq_false, not_false_eq_true, Bool.false_eq_true, eq_self]; done) | (rw [← hq]; simp [k_walkF, k_last, c_3, c_6, c_9, c_12]; done))
              have hP9 : va_P (dC, dI) vwCl (wPW cL cI q0 qw qr qc qn (k_walkF w su mx cf nu ad ac md dn (tb &&& 17592186044415)).2 tb su mx cf nu) s.heap := (by rw [w9_0]; exact hP)
              have hD9 : va_D A (wPW cL cI q0 qw qr qc qn (k_walkF w su mx cf nu ad ac md dn (tb &&& 17592186044415)).2 tb su mx cf nu) := (by rw [w9_0]; exact hD)
              exact W.lret (v := (k_pageFault ac)) hx hb hr (fun t ht hW => ⟨⟨(k_pageFault ac), (), rfl, (by first | rfl | (rw [← hq]; simp only [k_walkF, k_last, c_3, c_6, c_9, c_12, b2i, decide_true, decide_false, Bool.not_true, Bool.not_false, Bool.and_true, Bool.and_false, Bool.true_and, Bool.false_and, Bool.or_true, Bool.or_false, Bool.true_or, Bool.false_or, reduceIte, or_true, true_or, or_false, false_or, and_true, true_and, and_false, false_and, not_true_eq_false, not_false_eq_true, Bool.false_eq_true, eq_self]; done) | (rw [← hq]; simp [k_walkF, k_last, c_3, c_6, c_9, c_12]; done)), (by rw [ht]; exact hP9), va_K.moved hW.alike hK, hD9⟩, hS.F ht⟩) hS.2.2 dX1_walk_81
          · rw [b2i_z] at c_9
            refine lv_iload_n hx hb dX1_walk_56 rfl (lv_at hl 3 rfl) ?_
            refine vp_callSl (W.runS (As := [.int ac]) (rest := []) ⟨hx, hb, hml, hown, hts⟩ (mtX1_accessFault l ac) (va_cwS 1 hts (gAll (mc1 (wa 263 (by decide +kernel) rfl) (mc1 (wa 264 (by decide +kernel) rfl) (mc1 (wa 15 (by decide +kernel) rfl) mc0))) (wa 265 (by decide +kernel) rfl) (by decide +kernel)) rfl rfl rfl (by decide +kernel) ⟨Nat.le_of_ble_eq_true rfl, Nat.le_of_ble_eq_true rfl⟩) preEq rfl rfl hl.1 rfl (lv_room (Nat.le_of_ble_eq_true rfl)) dX1_walk_57 ⟨Nat.le_of_ble_eq_true rfl, Nat.le_of_ble_eq_true rfl⟩) (fun r_24 er_24 => ?_)
            have er_24 : r_24 = (k_accessFault ac) := er_24
            subst er_24
            have w9_0 : (k_walkF w su mx cf nu ad ac md dn (tb &&& 17592186044415)).2 = w := (by first | rfl | (rw [← hq]; simp only [k_walkF, k_last, c_3, c_6, c_9, b2i, decide_true, decide_false, Bool.not_true, Bool.not_false, Bool.and_true, Bool.and_false, Bool.true_and, Bool.false_and, Bool.or_true, Bool.or_false, Bool.true_or, Bool.false_or, reduceIte, or_true, true_or, or_false, false_or, and_true, true_and, and_false, false_and, not_true_eq_false, not_false_eq_true, Bool.false_eq_true, eq_self]; done) | (rw [← hq]; simp [k_walkF, k_last, c_3, c_6, c_9]; done))
            have hP9 : va_P (dC, dI) vwCl (wPW cL cI q0 qw qr qc qn (k_walkF w su mx cf nu ad ac md dn (tb &&& 17592186044415)).2 tb su mx cf nu) s.heap := (by rw [w9_0]; exact hP)
            have hD9 : va_D A (wPW cL cI q0 qw qr qc qn (k_walkF w su mx cf nu ad ac md dn (tb &&& 17592186044415)).2 tb su mx cf nu) := (by rw [w9_0]; exact hD)
            exact W.lret (v := (k_accessFault ac)) hx hb hr (fun t ht hW => ⟨⟨(k_accessFault ac), (), rfl, (by first | rfl | (rw [← hq]; simp only [k_walkF, k_last, c_3, c_6, c_9, b2i, decide_true, decide_false, Bool.not_true, Bool.not_false, Bool.and_true, Bool.and_false, Bool.true_and, Bool.false_and, Bool.or_true, Bool.or_false, Bool.true_or, Bool.false_or, reduceIte, or_true, true_or, or_false, false_or, and_true, true_and, and_false, false_and, not_true_eq_false, not_false_eq_true, Bool.false_eq_true, eq_self]; done) | (rw [← hq]; simp [k_walkF, k_last, c_3, c_6, c_9]; done)), (by rw [ht]; exact hP9), va_K.moved hW.alike hK, hD9⟩, hS.F ht⟩) hS.2.2 dX1_walk_60
  refine lv_aload_n hx hb dX1_walk_0 rfl (lv_at hl 0 rfl) ?_
  refine va_get (D := (dC, dI)) (ci := 1) (v := .long tb) (C := RX1) (T := TX1) (N := 5) hx hb hts iwX1 hown hK hP 0 rfl rfl 2 (by decide) (hts (.fieldLink RX1 20 RX1 "table" "J") (wa 48 (by decide +kernel) rfl)) (fun _ h9 => h9) rfl dX1_walk_1 ?_
  refine lv_ldc2 (v := 17592186044415) hx hb hown (hts (.constantLong RX1 117 17592186044415) (wa 279 (by decide +kernel) rfl)) dX1_walk_4 ?_
  refine lv_land hx hb dX1_walk_7 ?_
  refine lv_lstore (lv' := [(6, .long (tb &&& 17592186044415)), (0, .ref q0), (1, .long ad), (3, .int ac), (4, .int md), (5, .int (nI dn))]) hx hb dX1_walk_8 hl (by decide) rfl (fun ls hl => ?_)
  refine lv_iload hx hb dX1_walk_10 (lv_at hl 5 rfl) ?_
  refine lv_iconst (v := 1) hx hb dX1_walk_12 (by decide) ?_
  refine lv_isub hx hb dX1_walk_13 ?_
  refine lv_istore (lv' := [(8, .int ((nI dn) - 1)), (6, .long (tb &&& 17592186044415)), (0, .ref q0), (1, .long ad), (3, .int ac), (4, .int md), (5, .int (nI dn))]) hx hb dX1_walk_14 hl (by decide) rfl (fun ls hl => ?_)
  exact loop dn _ ls hdn rfl (lv_sub hl [2, 3, 4, 5, 1, 0] rfl)
set_option maxHeartbeats 4000000 in
set_option maxRecDepth 100000 in
theorem mtX1_translate (l : Launch) (dC : Nat → ClassId) (dI : Nat → Nat → Nat) (cL : ClassId) (cI : ClassId) (q0 : Nat) (qw : Nat) (qr : Nat) (qc : Nat) (qn : Nat) (w : Nat → Int64) (tb : Int64) (su : Bool) (mx : Bool) (cf : Nat → Int32) (nu : Nat → Int64) (hz : Nat) (ad : Int64) (ac : Int32) (md : Int32)  : Met l yX1_translate wsX1_translate ({ frames := 5, cells := 0, slots := 0, locals := 140 }) (va_Pc [.ref q0, .long ad, .int ac, .int md] (fun U => U.heap.size = hz ∧ va_P (dC, dI) vwCl (wPW cL cI q0 qw qr qc qn w tb su mx cf nu) U.heap ∧ va_K (dC, dI) vwCl [(cL, .long), (cI, .int)] U ∧ va_D (fun _ => True) (wPW cL cI q0 qw qr qc qn w tb su mx cf nu))) (va_Ql (fun r (_ : Unit) => r = (k_translate w tb su mx cf nu ad ac md).1) (fun _ t => va_P (dC, dI) vwCl (wPW cL cI q0 qw qr qc qn (k_translate w tb su mx cf nu ad ac md).2 tb su mx cf nu) t.heap ∧ va_K (dC, dI) vwCl [(cL, .long), (cI, .int)] t ∧ va_D (va_A (wPW cL cI q0 qw qr qc qn w tb su mx cf nu) hz) (wPW cL cI q0 qw qr qc qn (k_translate w tb su mx cf nu ad ac md).2 tb su mx cf nu)) (va_A (wPW cL cI q0 qw qr qc qn w tb su mx cf nu) hz)) 0 0 (va_A (wPW cL cI q0 qw qr qc qn w tb su mx cf nu) hz) := by
  refine Met.ofW (cc := cX1_translate) (maxL := 9) (ret := (some .long)) (by decide) rfl ?_
  intro p e s m args below meth c s₁ B hml hv
  obtain ⟨rfl, hsz, hP, hK, hD0⟩ := hv
  have hx := B.exec
  have hb := B.bytes
  have hr := B.returns
  have hts := atoms_spec (ws := wsX1_translate) B.pre
  have hown : s.vm.findClass RX1 = some m.cls := findClass_of_methodNamed B.named
  have hlocks := B.notSynchronized
  subst hsz
  have hD := hD0.self (sz := s.heap.size)
  generalize hAe : va_A (wPW cL cI q0 qw qr qc qn w tb su mx cf nu) s.heap.size = A at hD ⊢
  have hA : ∀ q : Nat, s.heap.size ≤ q → A q := fun q h => by rw [← hAe]; exact Or.inr h
  have hS : va_S A s.heap s.heap [] := va_S.rf
  have hP : va_P (dC, dI) vwCl [(q0, .inr (1, [.ref qw, .ref qr, .long tb, .int (b2i su), .int (b2i mx)])), (qw, .inl (cL, 8192, .inr (.inl w))), (qr, .inr (0, [.ref qc, .ref qn])), (qc, .inl (cI, 8, .inl cf)), (qn, .inl (cL, 8, .inr (.inl nu)))] s.heap := hP
  have hD : va_D A [(q0, .inr (1, [.ref qw, .ref qr, .long tb, .int (b2i su), .int (b2i mx)])), (qw, .inl (cL, 8192, .inr (.inl w))), (qr, .inr (0, [.ref qc, .ref qn])), (qc, .inl (cI, 8, .inl cf)), (qn, .inl (cL, 8, .inr (.inl nu)))] := hD
  have hl := lv_entry ([.ref q0, .long ad, .int ac, .int md]) (n := 9) (Nat.le_of_ble_eq_true rfl)
  rw [lg_entry_eq]
  generalize (lg_sl ([.ref q0, .long ad, .int ac, .int md]) ++ List.replicate (9 - (lg_sl ([.ref q0, .long ad, .int ac, .int md])).length) Slot.unset).toArray = ls at hl ⊢
  have hl : lv_has ls 9 [(0, .ref q0), (1, .long ad), (3, .int ac), (4, .int md)] := hl
  refine lv_aload_n hx hb dX1_translate_0 rfl (lv_at hl 0 rfl) ?_
  refine va_get (D := (dC, dI)) (ci := 1) (v := .long tb) (C := RX1) (T := TX1) (N := 5) hx hb hts iwX1 hown hK hP 0 rfl rfl 2 (by decide) (hts (.fieldLink RX1 20 RX1 "table" "J") (wa 48 (by decide +kernel) rfl)) (fun _ h9 => h9) rfl dX1_translate_1 ?_
  refine vp_callSi (W.runS (As := [.long tb]) (rest := []) ⟨hx, hb, hml, hown, hts⟩ (mtX1_sortOf l tb) (va_cwS 1 hts (gAll (mc1 (wa 192 (by decide +kernel) rfl) (mc1 (wa 193 (by decide +kernel) rfl) (mc1 (wa 15 (by decide +kernel) rfl) mc0))) (wa 194 (by decide +kernel) rfl) (by decide +kernel)) rfl rfl rfl (by decide +kernel) ⟨Nat.le_of_ble_eq_true rfl, Nat.le_of_ble_eq_true rfl⟩) preEq rfl rfl hl.1 rfl (lv_room (Nat.le_of_ble_eq_true rfl)) dX1_translate_4 ⟨Nat.le_of_ble_eq_true rfl, Nat.le_of_ble_eq_true rfl⟩) (fun r_1 er_1 => ?_)
  have er_1 : r_1 = (k_sortOf tb) := er_1
  subst er_1
  refine lv_istore (lv' := [(5, .int (k_sortOf tb)), (0, .ref q0), (1, .long ad), (3, .int ac), (4, .int md)]) hx hb dX1_translate_7 hl (by decide) rfl (fun ls hl => ?_)
  refine lv_iload hx hb dX1_translate_9 (lv_at hl 4 rfl) ?_
  refine lv_iconst (v := 3) hx hb dX1_translate_11 (by decide) ?_
  refine lv_icmp_eq (tgt := 20) hx hb dX1_translate_12 (by decide) (fun c_2 => ?_) (fun c_2 => ?_)
  · refine lv_lload_n hx hb dX1_translate_20 rfl (lv_at hl 2 rfl) ?_
    refine vp_callSi (W.runS (As := [.long ad]) (rest := []) ⟨hx, hb, hml, hown, hts⟩ (mtX1_isPhysical l ad) (va_cwS 1 hts (gAll (mc1 (wa 260 (by decide +kernel) rfl) (mc1 (wa 261 (by decide +kernel) rfl) (mc1 (wa 15 (by decide +kernel) rfl) mc0))) (wa 262 (by decide +kernel) rfl) (by decide +kernel)) rfl rfl rfl (by decide +kernel) ⟨Nat.le_of_ble_eq_true rfl, Nat.le_of_ble_eq_true rfl⟩) preEq rfl rfl hl.1 rfl (lv_room (Nat.le_of_ble_eq_true rfl)) dX1_translate_21 ⟨Nat.le_of_ble_eq_true rfl, Nat.le_of_ble_eq_true rfl⟩) (fun r_3 er_3 => ?_)
    have er_3 : r_3 = (b2i (k_isPhysical ad)) := er_3
    subst er_3
    refine lv_if_eq (tgt := 31) hx hb dX1_translate_24 (by decide) (fun c_4 => ?_) (fun c_4 => ?_)
    · rw [b2i_z] at c_4
      refine lv_iload_n hx hb dX1_translate_31 rfl (lv_at hl 3 rfl) ?_
      refine vp_callSl (W.runS (As := [.int ac]) (rest := []) ⟨hx, hb, hml, hown, hts⟩ (mtX1_accessFault l ac) (va_cwS 1 hts (gAll (mc1 (wa 263 (by decide +kernel) rfl) (mc1 (wa 264 (by decide +kernel) rfl) (mc1 (wa 15 (by decide +kernel) rfl) mc0))) (wa 265 (by decide +kernel) rfl) (by decide +kernel)) rfl rfl rfl (by decide +kernel) ⟨Nat.le_of_ble_eq_true rfl, Nat.le_of_ble_eq_true rfl⟩) preEq rfl rfl hl.1 rfl (lv_room (Nat.le_of_ble_eq_true rfl)) dX1_translate_32 ⟨Nat.le_of_ble_eq_true rfl, Nat.le_of_ble_eq_true rfl⟩) (fun r_5 er_5 => ?_)
      have er_5 : r_5 = (k_accessFault ac) := er_5
      subst er_5
      have w9_0 : (k_translate w tb su mx cf nu ad ac md).2 = w := (by first | rfl | (simp only [k_translate, c_2, c_4, b2i, decide_true, decide_false, Bool.not_true, Bool.not_false, Bool.and_true, Bool.and_false, Bool.true_and, Bool.false_and, Bool.or_true, Bool.or_false, Bool.true_or, Bool.false_or, reduceIte, or_true, true_or, or_false, false_or, and_true, true_and, and_false, false_and, not_true_eq_false, not_false_eq_true, Bool.false_eq_true, eq_self]; done) | (simp [k_translate, c_2, c_4]; done))
      have hP9 : va_P (dC, dI) vwCl (wPW cL cI q0 qw qr qc qn (k_translate w tb su mx cf nu ad ac md).2 tb su mx cf nu) s.heap := (by rw [w9_0]; exact hP)
      have hD9 : va_D A (wPW cL cI q0 qw qr qc qn (k_translate w tb su mx cf nu ad ac md).2 tb su mx cf nu) := (by rw [w9_0]; exact hD)
      exact W.lret (v := (k_accessFault ac)) hx hb hr (fun t ht hW => ⟨⟨(k_accessFault ac), (), rfl, (by first | rfl | (simp only [k_translate, c_2, c_4, b2i, decide_true, decide_false, Bool.not_true, Bool.not_false, Bool.and_true, Bool.and_false, Bool.true_and, Bool.false_and, Bool.or_true, Bool.or_false, Bool.true_or, Bool.false_or, reduceIte, or_true, true_or, or_false, false_or, and_true, true_and, and_false, false_and, not_true_eq_false, not_false_eq_true, Bool.false_eq_true, eq_self]; done) | (simp [k_translate, c_2, c_4]; done)), (by rw [ht]; exact hP9), va_K.moved hW.alike hK, hD9⟩, hS.F ht⟩) hS.2.2 dX1_translate_35
    · rw [b2i_z] at c_4
      rw [Bool.not_eq_false] at c_4
      refine lv_lload_n hx hb dX1_translate_27 rfl (lv_at hl 2 rfl) ?_
      refine lv_goto (tgt := 35) hx hb dX1_translate_28 (by decide) ?_
      have w9_0 : (k_translate w tb su mx cf nu ad ac md).2 = w := (by first | rfl | (simp only [k_translate, c_2, c_4, b2i, decide_true, decide_false, Bool.not_true, Bool.not_false, Bool.and_true, Bool.and_false, Bool.true_and, Bool.false_and, Bool.or_true, Bool.or_false, Bool.true_or, Bool.false_or, reduceIte, or_true, true_or, or_false, false_or, and_true, true_and, and_false, false_and, not_true_eq_false, not_false_eq_true, Bool.false_eq_true, eq_self]; done) | (simp [k_translate, c_2, c_4]; done))
      have hP9 : va_P (dC, dI) vwCl (wPW cL cI q0 qw qr qc qn (k_translate w tb su mx cf nu ad ac md).2 tb su mx cf nu) s.heap := (by rw [w9_0]; exact hP)
      have hD9 : va_D A (wPW cL cI q0 qw qr qc qn (k_translate w tb su mx cf nu ad ac md).2 tb su mx cf nu) := (by rw [w9_0]; exact hD)
      exact W.lret (v := ad) hx hb hr (fun t ht hW => ⟨⟨ad, (), rfl, (by first | rfl | (simp only [k_translate, c_2, c_4, b2i, decide_true, decide_false, Bool.not_true, Bool.not_false, Bool.and_true, Bool.and_false, Bool.true_and, Bool.false_and, Bool.or_true, Bool.or_false, Bool.true_or, Bool.false_or, reduceIte, or_true, true_or, or_false, false_or, and_true, true_and, and_false, false_and, not_true_eq_false, not_false_eq_true, Bool.false_eq_true, eq_self]; done) | (simp [k_translate, c_2, c_4]; done)), (by rw [ht]; exact hP9), va_K.moved hW.alike hK, hD9⟩, hS.F ht⟩) hS.2.2 dX1_translate_35
  · refine lv_iload hx hb dX1_translate_15 (lv_at hl 0 rfl) ?_
    refine lv_if_ne (tgt := 36) hx hb dX1_translate_17 (by decide) (fun c_6 => ?_) (fun c_6 => ?_)
    · refine lv_iload hx hb dX1_translate_36 (lv_at hl 0 rfl) ?_
      refine lv_bipush (v := 8) hx hb dX1_translate_38 (by decide) ?_
      refine lv_icmp_ne (tgt := 47) hx hb dX1_translate_40 (by decide) (fun c_7 => ?_) (fun c_7 => ?_)
      · refine lv_iconst (v := 4) hx hb dX1_translate_47 (by decide) ?_
        refine lv_istore (lv' := [(6, .int 4), (5, .int (k_sortOf tb)), (0, .ref q0), (1, .long ad), (3, .int ac), (4, .int md)]) hx hb dX1_translate_48 hl (by decide) rfl (fun ls hl => ?_)
        refine lv_lload_n hx hb dX1_translate_50 rfl (lv_at hl 3 rfl) ?_
        refine lv_bipush (v := 12) hx hb dX1_translate_51 (by decide) ?_
        refine lv_bipush (v := 9) hx hb dX1_translate_53 (by decide) ?_
        refine lv_iload hx hb dX1_translate_55 (lv_at hl 0 rfl) ?_
        refine lv_imul hx hb dX1_translate_57 ?_
        refine lv_iadd hx hb dX1_translate_58 ?_
        refine lv_iconst (v := 1) hx hb dX1_translate_59 (by decide) ?_
        refine lv_isub hx hb dX1_translate_60 ?_
        refine lv_lshr (v := (k_shr ad ((12 + (9 * 4)) - 1))) hx hb dX1_translate_61 rfl ?_
        refine lv_topl (fun x7 e_x7 => ?_)
        refine lv_lstore (lv' := [(7, .long x7), (6, .int 4), (5, .int (k_sortOf tb)), (0, .ref q0), (1, .long ad), (3, .int ac), (4, .int md)]) hx hb dX1_translate_62 hl (by decide) rfl (fun ls hl => ?_)
        have hd : k_depths tb = 4 := by simp [k_depths, c_2, c_6, c_7]
        have hx7 : k_above ad (nI 4) = x7 := e_x7.symm
        refine lv_lload hx hb dX1_translate_64 (lv_at hl 0 rfl) ?_
        refine lv_lconst (v := 0) hx hb dX1_translate_66 (by decide) ?_
        refine W.lcmp hx hb dX1_translate_67 ?_
        refine lv_if_eq (tgt := 85) hx hb dX1_translate_68 (by decide) (fun c_8 => ?_) (fun c_8 => ?_)
        · rw [lg_cmp_eq] at c_8
          refine lv_aload_n hx hb dX1_translate_85 rfl (lv_at hl 3 rfl) ?_
          refine lv_lload_n hx hb dX1_translate_86 rfl (lv_at hl 4 rfl) ?_
          refine lv_iload_n hx hb dX1_translate_87 rfl (lv_at hl 5 rfl) ?_
          refine lv_iload hx hb dX1_translate_88 (lv_at hl 6 rfl) ?_
          refine lv_iload hx hb dX1_translate_90 (lv_at hl 1 rfl) ?_
          have hPc := hP.sub (ws' := (wPW cL cI q0 qw qr qc qn w tb su mx cf nu)) [0, 1, 2, 3, 4] rfl
          have hDc := hD.sub (ws' := (wPW cL cI q0 qw qr qc qn w tb su mx cf nu)) [0, 1, 2, 3, 4] (by decide) rfl
          have hFc := va_free (wc := (wPW cL cI q0 qw qr qc qn w tb su mx cf nu)) hD hS hA [0, 1, 2, 3, 4] rfl
          refine va_calll (va_runV (As := [.long ad, .int ac, .int md, .int 4]) (rest := []) ⟨hx, hb, hml, hown, hts⟩ (mtX1_walk l dC dI cL cI q0 qw qr qc qn w tb su mx cf nu s.heap.size ad ac md 4 (by decide)) (cwV 4 hts (gAll (mc1 (wa 275 (by decide +kernel) rfl) (mc1 (wa 277 (by decide +kernel) rfl) (mc1 (wa 2 (by decide +kernel) rfl) (mc1 (wa 15 (by decide +kernel) rfl) mc0)))) (wa 278 (by decide +kernel) rfl) (by decide +kernel)) rfl rfl rfl (by decide +kernel) ⟨Nat.le_of_ble_eq_true rfl, Nat.le_of_ble_eq_true rfl⟩) (mu_pre (ci := 1) (q0 := 0) hK hPc hDc rfl rfl) rfl rfl hl.1 rfl (lv_room (Nat.le_of_ble_eq_true rfl)) dX1_translate_92 ⟨Nat.le_of_ble_eq_true rfl, Nat.le_of_ble_eq_true rfl⟩) hS (fun q _ h => hFc q h) hFc (fun r_9 u t H1 locs ht hvm hw hB hz1 hk1 hS => ?_)
          obtain ⟨hP1, hK1, hD1⟩ := hB
          rw [ht] at hP1
          obtain ⟨hP, hD⟩ := va_join (wr := []) (w1 := (wPW cL cI q0 qw qr qc qn (k_walkF w su mx cf nu ad ac md 4 (tb &&& 17592186044415)).2 tb su mx cf nu)) hP hD [0, 1, 2, 3, 4] [] rfl rfl (by decide) (by decide) hk1 hFc hP1 hD1
          generalize H1 = H at hP hS ⊢
          have hP : va_P (dC, dI) vwCl [(q0, .inr (1, [.ref qw, .ref qr, .long tb, .int (b2i su), .int (b2i mx)])), (qw, .inl (cL, 8192, .inr (.inl (k_walkF w su mx cf nu ad ac md 4 (tb &&& 17592186044415)).2))), (qr, .inr (0, [.ref qc, .ref qn])), (qc, .inl (cI, 8, .inl cf)), (qn, .inl (cL, 8, .inr (.inl nu)))] H := hP
          have hD : va_D A [(q0, .inr (1, [.ref qw, .ref qr, .long tb, .int (b2i su), .int (b2i mx)])), (qw, .inl (cL, 8192, .inr (.inl (k_walkF w su mx cf nu ad ac md 4 (tb &&& 17592186044415)).2))), (qr, .inr (0, [.ref qc, .ref qn])), (qc, .inl (cI, 8, .inl cf)), (qn, .inl (cL, 8, .inr (.inl nu)))] := hD
          have er_9 : r_9 = (k_walkF w su mx cf nu ad ac md 4 (tb &&& 17592186044415)).1 := hw
          subst er_9
          have w9_0 : (k_translate w tb su mx cf nu ad ac md).2 = (k_walkF w su mx cf nu ad ac md 4 (tb &&& 17592186044415)).2 := (by first | rfl | (simp only [k_translate, c_2, c_6, c_7, hd, hx7, c_8, b2i, decide_true, decide_false, Bool.not_true, Bool.not_false, Bool.and_true, Bool.and_false, Bool.true_and, Bool.false_and, Bool.or_true, Bool.or_false, Bool.true_or, Bool.false_or, reduceIte, or_true, true_or, or_false, false_or, and_true, true_and, and_false, false_and, not_true_eq_false, not_false_eq_true, Bool.false_eq_true, eq_self]; done) | (simp [k_translate, c_2, c_6, c_7, hd, hx7, c_8]; done))
          have hP9 : va_P (dC, dI) vwCl (wPW cL cI q0 qw qr qc qn (k_translate w tb su mx cf nu ad ac md).2 tb su mx cf nu) H := (by rw [w9_0]; exact hP)
          have hD9 : va_D A (wPW cL cI q0 qw qr qc qn (k_translate w tb su mx cf nu ad ac md).2 tb su mx cf nu) := (by rw [w9_0]; exact hD)
          exact W.lret (v := (k_walkF w su mx cf nu ad ac md 4 (tb &&& 17592186044415)).1) hx hb hr (fun t ht hW => ⟨⟨(k_walkF w su mx cf nu ad ac md 4 (tb &&& 17592186044415)).1, (), rfl, (by first | rfl | (simp only [k_translate, c_2, c_6, c_7, hd, hx7, c_8, b2i, decide_true, decide_false, Bool.not_true, Bool.not_false, Bool.and_true, Bool.and_false, Bool.true_and, Bool.false_and, Bool.or_true, Bool.or_false, Bool.true_or, Bool.false_or, reduceIte, or_true, true_or, or_false, false_or, and_true, true_and, and_false, false_and, not_true_eq_false, not_false_eq_true, Bool.false_eq_true, eq_self]; done) | (simp [k_translate, c_2, c_6, c_7, hd, hx7, c_8]; done)), (by rw [ht]; exact hP9), va_K.moved hW.alike hK, hD9⟩, hS.F ht⟩) hS.2.2 dX1_translate_95
        · rw [lg_cmp_eq] at c_8
          refine lv_lload hx hb dX1_translate_71 (lv_at hl 0 rfl) ?_
          refine lv_ldc2 (v := (-1)) hx hb hown (hts (.constantLong RX1 92 (-1)) (wa 266 (by decide +kernel) rfl)) dX1_translate_73 ?_
          refine W.lcmp hx hb dX1_translate_76 ?_
          refine lv_if_eq (tgt := 85) hx hb dX1_translate_77 (by decide) (fun c_10 => ?_) (fun c_10 => ?_)
          · rw [lg_cmp_eq] at c_10
            refine lv_aload_n hx hb dX1_translate_85 rfl (lv_at hl 3 rfl) ?_
            refine lv_lload_n hx hb dX1_translate_86 rfl (lv_at hl 4 rfl) ?_
            refine lv_iload_n hx hb dX1_translate_87 rfl (lv_at hl 5 rfl) ?_
            refine lv_iload hx hb dX1_translate_88 (lv_at hl 6 rfl) ?_
            refine lv_iload hx hb dX1_translate_90 (lv_at hl 1 rfl) ?_
            have hPc := hP.sub (ws' := (wPW cL cI q0 qw qr qc qn w tb su mx cf nu)) [0, 1, 2, 3, 4] rfl
            have hDc := hD.sub (ws' := (wPW cL cI q0 qw qr qc qn w tb su mx cf nu)) [0, 1, 2, 3, 4] (by decide) rfl
            have hFc := va_free (wc := (wPW cL cI q0 qw qr qc qn w tb su mx cf nu)) hD hS hA [0, 1, 2, 3, 4] rfl
            refine va_calll (va_runV (As := [.long ad, .int ac, .int md, .int 4]) (rest := []) ⟨hx, hb, hml, hown, hts⟩ (mtX1_walk l dC dI cL cI q0 qw qr qc qn w tb su mx cf nu s.heap.size ad ac md 4 (by decide)) (cwV 4 hts (gAll (mc1 (wa 275 (by decide +kernel) rfl) (mc1 (wa 277 (by decide +kernel) rfl) (mc1 (wa 2 (by decide +kernel) rfl) (mc1 (wa 15 (by decide +kernel) rfl) mc0)))) (wa 278 (by decide +kernel) rfl) (by decide +kernel)) rfl rfl rfl (by decide +kernel) ⟨Nat.le_of_ble_eq_true rfl, Nat.le_of_ble_eq_true rfl⟩) (mu_pre (ci := 1) (q0 := 0) hK hPc hDc rfl rfl) rfl rfl hl.1 rfl (lv_room (Nat.le_of_ble_eq_true rfl)) dX1_translate_92 ⟨Nat.le_of_ble_eq_true rfl, Nat.le_of_ble_eq_true rfl⟩) hS (fun q _ h => hFc q h) hFc (fun r_11 u t H1 locs ht hvm hw hB hz1 hk1 hS => ?_)
            obtain ⟨hP1, hK1, hD1⟩ := hB
            rw [ht] at hP1
            obtain ⟨hP, hD⟩ := va_join (wr := []) (w1 := (wPW cL cI q0 qw qr qc qn (k_walkF w su mx cf nu ad ac md 4 (tb &&& 17592186044415)).2 tb su mx cf nu)) hP hD [0, 1, 2, 3, 4] [] rfl rfl (by decide) (by decide) hk1 hFc hP1 hD1
            generalize H1 = H at hP hS ⊢
            have hP : va_P (dC, dI) vwCl [(q0, .inr (1, [.ref qw, .ref qr, .long tb, .int (b2i su), .int (b2i mx)])), (qw, .inl (cL, 8192, .inr (.inl (k_walkF w su mx cf nu ad ac md 4 (tb &&& 17592186044415)).2))), (qr, .inr (0, [.ref qc, .ref qn])), (qc, .inl (cI, 8, .inl cf)), (qn, .inl (cL, 8, .inr (.inl nu)))] H := hP
            have hD : va_D A [(q0, .inr (1, [.ref qw, .ref qr, .long tb, .int (b2i su), .int (b2i mx)])), (qw, .inl (cL, 8192, .inr (.inl (k_walkF w su mx cf nu ad ac md 4 (tb &&& 17592186044415)).2))), (qr, .inr (0, [.ref qc, .ref qn])), (qc, .inl (cI, 8, .inl cf)), (qn, .inl (cL, 8, .inr (.inl nu)))] := hD
            have er_11 : r_11 = (k_walkF w su mx cf nu ad ac md 4 (tb &&& 17592186044415)).1 := hw
            subst er_11
            have w9_0 : (k_translate w tb su mx cf nu ad ac md).2 = (k_walkF w su mx cf nu ad ac md 4 (tb &&& 17592186044415)).2 := (by first | rfl | (simp only [k_translate, c_2, c_6, c_7, hd, hx7, c_8, c_10, b2i, decide_true, decide_false, Bool.not_true, Bool.not_false, Bool.and_true, Bool.and_false, Bool.true_and, Bool.false_and, Bool.or_true, Bool.or_false, Bool.true_or, Bool.false_or, reduceIte, or_true, true_or, or_false, false_or, and_true, true_and, and_false, false_and, not_true_eq_false, not_false_eq_true, Bool.false_eq_true, eq_self]; done) | (simp [k_translate, c_2, c_6, c_7, hd, hx7, c_8, c_10]; done))
            have hP9 : va_P (dC, dI) vwCl (wPW cL cI q0 qw qr qc qn (k_translate w tb su mx cf nu ad ac md).2 tb su mx cf nu) H := (by rw [w9_0]; exact hP)
            have hD9 : va_D A (wPW cL cI q0 qw qr qc qn (k_translate w tb su mx cf nu ad ac md).2 tb su mx cf nu) := (by rw [w9_0]; exact hD)
            exact W.lret (v := (k_walkF w su mx cf nu ad ac md 4 (tb &&& 17592186044415)).1) hx hb hr (fun t ht hW => ⟨⟨(k_walkF w su mx cf nu ad ac md 4 (tb &&& 17592186044415)).1, (), rfl, (by first | rfl | (simp only [k_translate, c_2, c_6, c_7, hd, hx7, c_8, c_10, b2i, decide_true, decide_false, Bool.not_true, Bool.not_false, Bool.and_true, Bool.and_false, Bool.true_and, Bool.false_and, Bool.or_true, Bool.or_false, Bool.true_or, Bool.false_or, reduceIte, or_true, true_or, or_false, false_or, and_true, true_and, and_false, false_and, not_true_eq_false, not_false_eq_true, Bool.false_eq_true, eq_self]; done) | (simp [k_translate, c_2, c_6, c_7, hd, hx7, c_8, c_10]; done)), (by rw [ht]; exact hP9), va_K.moved hW.alike hK, hD9⟩, hS.F ht⟩) hS.2.2 dX1_translate_95
          · rw [lg_cmp_eq] at c_10
            refine lv_iload_n hx hb dX1_translate_80 rfl (lv_at hl 5 rfl) ?_
            refine vp_callSl (W.runS (As := [.int ac]) (rest := []) ⟨hx, hb, hml, hown, hts⟩ (mtX1_pageFault l ac) (va_cwS 1 hts (gAll (mc1 (wa 269 (by decide +kernel) rfl) (mc1 (wa 270 (by decide +kernel) rfl) (mc1 (wa 15 (by decide +kernel) rfl) mc0))) (wa 271 (by decide +kernel) rfl) (by decide +kernel)) rfl rfl rfl (by decide +kernel) ⟨Nat.le_of_ble_eq_true rfl, Nat.le_of_ble_eq_true rfl⟩) preEq rfl rfl hl.1 rfl (lv_room (Nat.le_of_ble_eq_true rfl)) dX1_translate_81 ⟨Nat.le_of_ble_eq_true rfl, Nat.le_of_ble_eq_true rfl⟩) (fun r_12 er_12 => ?_)
            have er_12 : r_12 = (k_pageFault ac) := er_12
            subst er_12
            have w9_0 : (k_translate w tb su mx cf nu ad ac md).2 = w := (by first | rfl | (simp only [k_translate, c_2, c_6, c_7, hd, hx7, c_8, c_10, b2i, decide_true, decide_false, Bool.not_true, Bool.not_false, Bool.and_true, Bool.and_false, Bool.true_and, Bool.false_and, Bool.or_true, Bool.or_false, Bool.true_or, Bool.false_or, reduceIte, or_true, true_or, or_false, false_or, and_true, true_and, and_false, false_and, not_true_eq_false, not_false_eq_true, Bool.false_eq_true, eq_self]; done) | (simp [k_translate, c_2, c_6, c_7, hd, hx7, c_8, c_10]; done))
            have hP9 : va_P (dC, dI) vwCl (wPW cL cI q0 qw qr qc qn (k_translate w tb su mx cf nu ad ac md).2 tb su mx cf nu) s.heap := (by rw [w9_0]; exact hP)
            have hD9 : va_D A (wPW cL cI q0 qw qr qc qn (k_translate w tb su mx cf nu ad ac md).2 tb su mx cf nu) := (by rw [w9_0]; exact hD)
            exact W.lret (v := (k_pageFault ac)) hx hb hr (fun t ht hW => ⟨⟨(k_pageFault ac), (), rfl, (by first | rfl | (simp only [k_translate, c_2, c_6, c_7, hd, hx7, c_8, c_10, b2i, decide_true, decide_false, Bool.not_true, Bool.not_false, Bool.and_true, Bool.and_false, Bool.true_and, Bool.false_and, Bool.or_true, Bool.or_false, Bool.true_or, Bool.false_or, reduceIte, or_true, true_or, or_false, false_or, and_true, true_and, and_false, false_and, not_true_eq_false, not_false_eq_true, Bool.false_eq_true, eq_self]; done) | (simp [k_translate, c_2, c_6, c_7, hd, hx7, c_8, c_10]; done)), (by rw [ht]; exact hP9), va_K.moved hW.alike hK, hD9⟩, hS.F ht⟩) hS.2.2 dX1_translate_84
      · refine lv_iconst (v := 3) hx hb dX1_translate_43 (by decide) ?_
        refine lv_goto (tgt := 48) hx hb dX1_translate_44 (by decide) ?_
        refine lv_istore (lv' := [(6, .int 3), (5, .int (k_sortOf tb)), (0, .ref q0), (1, .long ad), (3, .int ac), (4, .int md)]) hx hb dX1_translate_48 hl (by decide) rfl (fun ls hl => ?_)
        refine lv_lload_n hx hb dX1_translate_50 rfl (lv_at hl 3 rfl) ?_
        refine lv_bipush (v := 12) hx hb dX1_translate_51 (by decide) ?_
        refine lv_bipush (v := 9) hx hb dX1_translate_53 (by decide) ?_
        refine lv_iload hx hb dX1_translate_55 (lv_at hl 0 rfl) ?_
        refine lv_imul hx hb dX1_translate_57 ?_
        refine lv_iadd hx hb dX1_translate_58 ?_
        refine lv_iconst (v := 1) hx hb dX1_translate_59 (by decide) ?_
        refine lv_isub hx hb dX1_translate_60 ?_
        refine lv_lshr (v := (k_shr ad ((12 + (9 * 3)) - 1))) hx hb dX1_translate_61 rfl ?_
        refine lv_topl (fun x7 e_x7 => ?_)
        refine lv_lstore (lv' := [(7, .long x7), (6, .int 3), (5, .int (k_sortOf tb)), (0, .ref q0), (1, .long ad), (3, .int ac), (4, .int md)]) hx hb dX1_translate_62 hl (by decide) rfl (fun ls hl => ?_)
        have hd : k_depths tb = 3 := by simp [k_depths, c_2, c_6, c_7]
        have hx7 : k_above ad (nI 3) = x7 := e_x7.symm
        refine lv_lload hx hb dX1_translate_64 (lv_at hl 0 rfl) ?_
        refine lv_lconst (v := 0) hx hb dX1_translate_66 (by decide) ?_
        refine W.lcmp hx hb dX1_translate_67 ?_
        refine lv_if_eq (tgt := 85) hx hb dX1_translate_68 (by decide) (fun c_13 => ?_) (fun c_13 => ?_)
        · rw [lg_cmp_eq] at c_13
          refine lv_aload_n hx hb dX1_translate_85 rfl (lv_at hl 3 rfl) ?_
          refine lv_lload_n hx hb dX1_translate_86 rfl (lv_at hl 4 rfl) ?_
          refine lv_iload_n hx hb dX1_translate_87 rfl (lv_at hl 5 rfl) ?_
          refine lv_iload hx hb dX1_translate_88 (lv_at hl 6 rfl) ?_
          refine lv_iload hx hb dX1_translate_90 (lv_at hl 1 rfl) ?_
          have hPc := hP.sub (ws' := (wPW cL cI q0 qw qr qc qn w tb su mx cf nu)) [0, 1, 2, 3, 4] rfl
          have hDc := hD.sub (ws' := (wPW cL cI q0 qw qr qc qn w tb su mx cf nu)) [0, 1, 2, 3, 4] (by decide) rfl
          have hFc := va_free (wc := (wPW cL cI q0 qw qr qc qn w tb su mx cf nu)) hD hS hA [0, 1, 2, 3, 4] rfl
          refine va_calll (va_runV (As := [.long ad, .int ac, .int md, .int 3]) (rest := []) ⟨hx, hb, hml, hown, hts⟩ (mtX1_walk l dC dI cL cI q0 qw qr qc qn w tb su mx cf nu s.heap.size ad ac md 3 (by decide)) (cwV 4 hts (gAll (mc1 (wa 275 (by decide +kernel) rfl) (mc1 (wa 277 (by decide +kernel) rfl) (mc1 (wa 2 (by decide +kernel) rfl) (mc1 (wa 15 (by decide +kernel) rfl) mc0)))) (wa 278 (by decide +kernel) rfl) (by decide +kernel)) rfl rfl rfl (by decide +kernel) ⟨Nat.le_of_ble_eq_true rfl, Nat.le_of_ble_eq_true rfl⟩) (mu_pre (ci := 1) (q0 := 0) hK hPc hDc rfl rfl) rfl rfl hl.1 rfl (lv_room (Nat.le_of_ble_eq_true rfl)) dX1_translate_92 ⟨Nat.le_of_ble_eq_true rfl, Nat.le_of_ble_eq_true rfl⟩) hS (fun q _ h => hFc q h) hFc (fun r_14 u t H1 locs ht hvm hw hB hz1 hk1 hS => ?_)
          obtain ⟨hP1, hK1, hD1⟩ := hB
          rw [ht] at hP1
          obtain ⟨hP, hD⟩ := va_join (wr := []) (w1 := (wPW cL cI q0 qw qr qc qn (k_walkF w su mx cf nu ad ac md 3 (tb &&& 17592186044415)).2 tb su mx cf nu)) hP hD [0, 1, 2, 3, 4] [] rfl rfl (by decide) (by decide) hk1 hFc hP1 hD1
          generalize H1 = H at hP hS ⊢
          have hP : va_P (dC, dI) vwCl [(q0, .inr (1, [.ref qw, .ref qr, .long tb, .int (b2i su), .int (b2i mx)])), (qw, .inl (cL, 8192, .inr (.inl (k_walkF w su mx cf nu ad ac md 3 (tb &&& 17592186044415)).2))), (qr, .inr (0, [.ref qc, .ref qn])), (qc, .inl (cI, 8, .inl cf)), (qn, .inl (cL, 8, .inr (.inl nu)))] H := hP
          have hD : va_D A [(q0, .inr (1, [.ref qw, .ref qr, .long tb, .int (b2i su), .int (b2i mx)])), (qw, .inl (cL, 8192, .inr (.inl (k_walkF w su mx cf nu ad ac md 3 (tb &&& 17592186044415)).2))), (qr, .inr (0, [.ref qc, .ref qn])), (qc, .inl (cI, 8, .inl cf)), (qn, .inl (cL, 8, .inr (.inl nu)))] := hD
          have er_14 : r_14 = (k_walkF w su mx cf nu ad ac md 3 (tb &&& 17592186044415)).1 := hw
          subst er_14
          have w9_0 : (k_translate w tb su mx cf nu ad ac md).2 = (k_walkF w su mx cf nu ad ac md 3 (tb &&& 17592186044415)).2 := (by first | rfl | (simp only [k_translate, c_2, c_6, c_7, hd, hx7, c_13, b2i, decide_true, decide_false, Bool.not_true, Bool.not_false, Bool.and_true, Bool.and_false, Bool.true_and, Bool.false_and, Bool.or_true, Bool.or_false, Bool.true_or, Bool.false_or, reduceIte, or_true, true_or, or_false, false_or, and_true, true_and, and_false, false_and, not_true_eq_false, not_false_eq_true, Bool.false_eq_true, eq_self]; done) | (simp [k_translate, c_2, c_6, c_7, hd, hx7, c_13]; done))
          have hP9 : va_P (dC, dI) vwCl (wPW cL cI q0 qw qr qc qn (k_translate w tb su mx cf nu ad ac md).2 tb su mx cf nu) H := (by rw [w9_0]; exact hP)
          have hD9 : va_D A (wPW cL cI q0 qw qr qc qn (k_translate w tb su mx cf nu ad ac md).2 tb su mx cf nu) := (by rw [w9_0]; exact hD)
          exact W.lret (v := (k_walkF w su mx cf nu ad ac md 3 (tb &&& 17592186044415)).1) hx hb hr (fun t ht hW => ⟨⟨(k_walkF w su mx cf nu ad ac md 3 (tb &&& 17592186044415)).1, (), rfl, (by first | rfl | (simp only [k_translate, c_2, c_6, c_7, hd, hx7, c_13, b2i, decide_true, decide_false, Bool.not_true, Bool.not_false, Bool.and_true, Bool.and_false, Bool.true_and, Bool.false_and, Bool.or_true, Bool.or_false, Bool.true_or, Bool.false_or, reduceIte, or_true, true_or, or_false, false_or, and_true, true_and, and_false, false_and, not_true_eq_false, not_false_eq_true, Bool.false_eq_true, eq_self]; done) | (simp [k_translate, c_2, c_6, c_7, hd, hx7, c_13]; done)), (by rw [ht]; exact hP9), va_K.moved hW.alike hK, hD9⟩, hS.F ht⟩) hS.2.2 dX1_translate_95
        · rw [lg_cmp_eq] at c_13
          refine lv_lload hx hb dX1_translate_71 (lv_at hl 0 rfl) ?_
          refine lv_ldc2 (v := (-1)) hx hb hown (hts (.constantLong RX1 92 (-1)) (wa 266 (by decide +kernel) rfl)) dX1_translate_73 ?_
          refine W.lcmp hx hb dX1_translate_76 ?_
          refine lv_if_eq (tgt := 85) hx hb dX1_translate_77 (by decide) (fun c_15 => ?_) (fun c_15 => ?_)
          · rw [lg_cmp_eq] at c_15
            refine lv_aload_n hx hb dX1_translate_85 rfl (lv_at hl 3 rfl) ?_
            refine lv_lload_n hx hb dX1_translate_86 rfl (lv_at hl 4 rfl) ?_
            refine lv_iload_n hx hb dX1_translate_87 rfl (lv_at hl 5 rfl) ?_
            refine lv_iload hx hb dX1_translate_88 (lv_at hl 6 rfl) ?_
            refine lv_iload hx hb dX1_translate_90 (lv_at hl 1 rfl) ?_
            have hPc := hP.sub (ws' := (wPW cL cI q0 qw qr qc qn w tb su mx cf nu)) [0, 1, 2, 3, 4] rfl
            have hDc := hD.sub (ws' := (wPW cL cI q0 qw qr qc qn w tb su mx cf nu)) [0, 1, 2, 3, 4] (by decide) rfl
            have hFc := va_free (wc := (wPW cL cI q0 qw qr qc qn w tb su mx cf nu)) hD hS hA [0, 1, 2, 3, 4] rfl
            refine va_calll (va_runV (As := [.long ad, .int ac, .int md, .int 3]) (rest := []) ⟨hx, hb, hml, hown, hts⟩ (mtX1_walk l dC dI cL cI q0 qw qr qc qn w tb su mx cf nu s.heap.size ad ac md 3 (by decide)) (cwV 4 hts (gAll (mc1 (wa 275 (by decide +kernel) rfl) (mc1 (wa 277 (by decide +kernel) rfl) (mc1 (wa 2 (by decide +kernel) rfl) (mc1 (wa 15 (by decide +kernel) rfl) mc0)))) (wa 278 (by decide +kernel) rfl) (by decide +kernel)) rfl rfl rfl (by decide +kernel) ⟨Nat.le_of_ble_eq_true rfl, Nat.le_of_ble_eq_true rfl⟩) (mu_pre (ci := 1) (q0 := 0) hK hPc hDc rfl rfl) rfl rfl hl.1 rfl (lv_room (Nat.le_of_ble_eq_true rfl)) dX1_translate_92 ⟨Nat.le_of_ble_eq_true rfl, Nat.le_of_ble_eq_true rfl⟩) hS (fun q _ h => hFc q h) hFc (fun r_16 u t H1 locs ht hvm hw hB hz1 hk1 hS => ?_)
            obtain ⟨hP1, hK1, hD1⟩ := hB
            rw [ht] at hP1
            obtain ⟨hP, hD⟩ := va_join (wr := []) (w1 := (wPW cL cI q0 qw qr qc qn (k_walkF w su mx cf nu ad ac md 3 (tb &&& 17592186044415)).2 tb su mx cf nu)) hP hD [0, 1, 2, 3, 4] [] rfl rfl (by decide) (by decide) hk1 hFc hP1 hD1
            generalize H1 = H at hP hS ⊢
            have hP : va_P (dC, dI) vwCl [(q0, .inr (1, [.ref qw, .ref qr, .long tb, .int (b2i su), .int (b2i mx)])), (qw, .inl (cL, 8192, .inr (.inl (k_walkF w su mx cf nu ad ac md 3 (tb &&& 17592186044415)).2))), (qr, .inr (0, [.ref qc, .ref qn])), (qc, .inl (cI, 8, .inl cf)), (qn, .inl (cL, 8, .inr (.inl nu)))] H := hP
            have hD : va_D A [(q0, .inr (1, [.ref qw, .ref qr, .long tb, .int (b2i su), .int (b2i mx)])), (qw, .inl (cL, 8192, .inr (.inl (k_walkF w su mx cf nu ad ac md 3 (tb &&& 17592186044415)).2))), (qr, .inr (0, [.ref qc, .ref qn])), (qc, .inl (cI, 8, .inl cf)), (qn, .inl (cL, 8, .inr (.inl nu)))] := hD
            have er_16 : r_16 = (k_walkF w su mx cf nu ad ac md 3 (tb &&& 17592186044415)).1 := hw
            subst er_16
            have w9_0 : (k_translate w tb su mx cf nu ad ac md).2 = (k_walkF w su mx cf nu ad ac md 3 (tb &&& 17592186044415)).2 := (by first | rfl | (simp only [k_translate, c_2, c_6, c_7, hd, hx7, c_13, c_15, b2i, decide_true, decide_false, Bool.not_true, Bool.not_false, Bool.and_true, Bool.and_false, Bool.true_and, Bool.false_and, Bool.or_true, Bool.or_false, Bool.true_or, Bool.false_or, reduceIte, or_true, true_or, or_false, false_or, and_true, true_and, and_false, false_and, not_true_eq_false, not_false_eq_true, Bool.false_eq_true, eq_self]; done) | (simp [k_translate, c_2, c_6, c_7, hd, hx7, c_13, c_15]; done))
            have hP9 : va_P (dC, dI) vwCl (wPW cL cI q0 qw qr qc qn (k_translate w tb su mx cf nu ad ac md).2 tb su mx cf nu) H := (by rw [w9_0]; exact hP)
            have hD9 : va_D A (wPW cL cI q0 qw qr qc qn (k_translate w tb su mx cf nu ad ac md).2 tb su mx cf nu) := (by rw [w9_0]; exact hD)
            exact W.lret (v := (k_walkF w su mx cf nu ad ac md 3 (tb &&& 17592186044415)).1) hx hb hr (fun t ht hW => ⟨⟨(k_walkF w su mx cf nu ad ac md 3 (tb &&& 17592186044415)).1, (), rfl, (by first | rfl | (simp only [k_translate, c_2, c_6, c_7, hd, hx7, c_13, c_15, b2i, decide_true, decide_false, Bool.not_true, Bool.not_false, Bool.and_true, Bool.and_false, Bool.true_and, Bool.false_and, Bool.or_true, Bool.or_false, Bool.true_or, Bool.false_or, reduceIte, or_true, true_or, or_false, false_or, and_true, true_and, and_false, false_and, not_true_eq_false, not_false_eq_true, Bool.false_eq_true, eq_self]; done) | (simp [k_translate, c_2, c_6, c_7, hd, hx7, c_13, c_15]; done)), (by rw [ht]; exact hP9), va_K.moved hW.alike hK, hD9⟩, hS.F ht⟩) hS.2.2 dX1_translate_95
          · rw [lg_cmp_eq] at c_15
            refine lv_iload_n hx hb dX1_translate_80 rfl (lv_at hl 5 rfl) ?_
            refine vp_callSl (W.runS (As := [.int ac]) (rest := []) ⟨hx, hb, hml, hown, hts⟩ (mtX1_pageFault l ac) (va_cwS 1 hts (gAll (mc1 (wa 269 (by decide +kernel) rfl) (mc1 (wa 270 (by decide +kernel) rfl) (mc1 (wa 15 (by decide +kernel) rfl) mc0))) (wa 271 (by decide +kernel) rfl) (by decide +kernel)) rfl rfl rfl (by decide +kernel) ⟨Nat.le_of_ble_eq_true rfl, Nat.le_of_ble_eq_true rfl⟩) preEq rfl rfl hl.1 rfl (lv_room (Nat.le_of_ble_eq_true rfl)) dX1_translate_81 ⟨Nat.le_of_ble_eq_true rfl, Nat.le_of_ble_eq_true rfl⟩) (fun r_17 er_17 => ?_)
            have er_17 : r_17 = (k_pageFault ac) := er_17
            subst er_17
            have w9_0 : (k_translate w tb su mx cf nu ad ac md).2 = w := (by first | rfl | (simp only [k_translate, c_2, c_6, c_7, hd, hx7, c_13, c_15, b2i, decide_true, decide_false, Bool.not_true, Bool.not_false, Bool.and_true, Bool.and_false, Bool.true_and, Bool.false_and, Bool.or_true, Bool.or_false, Bool.true_or, Bool.false_or, reduceIte, or_true, true_or, or_false, false_or, and_true, true_and, and_false, false_and, not_true_eq_false, not_false_eq_true, Bool.false_eq_true, eq_self]; done) | (simp [k_translate, c_2, c_6, c_7, hd, hx7, c_13, c_15]; done))
            have hP9 : va_P (dC, dI) vwCl (wPW cL cI q0 qw qr qc qn (k_translate w tb su mx cf nu ad ac md).2 tb su mx cf nu) s.heap := (by rw [w9_0]; exact hP)
            have hD9 : va_D A (wPW cL cI q0 qw qr qc qn (k_translate w tb su mx cf nu ad ac md).2 tb su mx cf nu) := (by rw [w9_0]; exact hD)
            exact W.lret (v := (k_pageFault ac)) hx hb hr (fun t ht hW => ⟨⟨(k_pageFault ac), (), rfl, (by first | rfl | (simp only [k_translate, c_2, c_6, c_7, hd, hx7, c_13, c_15, b2i, decide_true, decide_false, Bool.not_true, Bool.not_false, Bool.and_true, Bool.and_false, Bool.true_and, Bool.false_and, Bool.or_true, Bool.or_false, Bool.true_or, Bool.false_or, reduceIte, or_true, true_or, or_false, false_or, and_true, true_and, and_false, false_and, not_true_eq_false, not_false_eq_true, Bool.false_eq_true, eq_self]; done) | (simp [k_translate, c_2, c_6, c_7, hd, hx7, c_13, c_15]; done)), (by rw [ht]; exact hP9), va_K.moved hW.alike hK, hD9⟩, hS.F ht⟩) hS.2.2 dX1_translate_84
    · refine lv_lload_n hx hb dX1_translate_20 rfl (lv_at hl 2 rfl) ?_
      refine vp_callSi (W.runS (As := [.long ad]) (rest := []) ⟨hx, hb, hml, hown, hts⟩ (mtX1_isPhysical l ad) (va_cwS 1 hts (gAll (mc1 (wa 260 (by decide +kernel) rfl) (mc1 (wa 261 (by decide +kernel) rfl) (mc1 (wa 15 (by decide +kernel) rfl) mc0))) (wa 262 (by decide +kernel) rfl) (by decide +kernel)) rfl rfl rfl (by decide +kernel) ⟨Nat.le_of_ble_eq_true rfl, Nat.le_of_ble_eq_true rfl⟩) preEq rfl rfl hl.1 rfl (lv_room (Nat.le_of_ble_eq_true rfl)) dX1_translate_21 ⟨Nat.le_of_ble_eq_true rfl, Nat.le_of_ble_eq_true rfl⟩) (fun r_18 er_18 => ?_)
      have er_18 : r_18 = (b2i (k_isPhysical ad)) := er_18
      subst er_18
      refine lv_if_eq (tgt := 31) hx hb dX1_translate_24 (by decide) (fun c_19 => ?_) (fun c_19 => ?_)
      · rw [b2i_z] at c_19
        refine lv_iload_n hx hb dX1_translate_31 rfl (lv_at hl 3 rfl) ?_
        refine vp_callSl (W.runS (As := [.int ac]) (rest := []) ⟨hx, hb, hml, hown, hts⟩ (mtX1_accessFault l ac) (va_cwS 1 hts (gAll (mc1 (wa 263 (by decide +kernel) rfl) (mc1 (wa 264 (by decide +kernel) rfl) (mc1 (wa 15 (by decide +kernel) rfl) mc0))) (wa 265 (by decide +kernel) rfl) (by decide +kernel)) rfl rfl rfl (by decide +kernel) ⟨Nat.le_of_ble_eq_true rfl, Nat.le_of_ble_eq_true rfl⟩) preEq rfl rfl hl.1 rfl (lv_room (Nat.le_of_ble_eq_true rfl)) dX1_translate_32 ⟨Nat.le_of_ble_eq_true rfl, Nat.le_of_ble_eq_true rfl⟩) (fun r_20 er_20 => ?_)
        have er_20 : r_20 = (k_accessFault ac) := er_20
        subst er_20
        have w9_0 : (k_translate w tb su mx cf nu ad ac md).2 = w := (by first | rfl | (simp only [k_translate, c_2, c_6, c_19, b2i, decide_true, decide_false, Bool.not_true, Bool.not_false, Bool.and_true, Bool.and_false, Bool.true_and, Bool.false_and, Bool.or_true, Bool.or_false, Bool.true_or, Bool.false_or, reduceIte, or_true, true_or, or_false, false_or, and_true, true_and, and_false, false_and, not_true_eq_false, not_false_eq_true, Bool.false_eq_true, eq_self]; done) | (simp [k_translate, c_2, c_6, c_19]; done))
        have hP9 : va_P (dC, dI) vwCl (wPW cL cI q0 qw qr qc qn (k_translate w tb su mx cf nu ad ac md).2 tb su mx cf nu) s.heap := (by rw [w9_0]; exact hP)
        have hD9 : va_D A (wPW cL cI q0 qw qr qc qn (k_translate w tb su mx cf nu ad ac md).2 tb su mx cf nu) := (by rw [w9_0]; exact hD)
        exact W.lret (v := (k_accessFault ac)) hx hb hr (fun t ht hW => ⟨⟨(k_accessFault ac), (), rfl, (by first | rfl | (simp only [k_translate, c_2, c_6, c_19, b2i, decide_true, decide_false, Bool.not_true, Bool.not_false, Bool.and_true, Bool.and_false, Bool.true_and, Bool.false_and, Bool.or_true, Bool.or_false, Bool.true_or, Bool.false_or, reduceIte, or_true, true_or, or_false, false_or, and_true, true_and, and_false, false_and, not_true_eq_false, not_false_eq_true, Bool.false_eq_true, eq_self]; done) | (simp [k_translate, c_2, c_6, c_19]; done)), (by rw [ht]; exact hP9), va_K.moved hW.alike hK, hD9⟩, hS.F ht⟩) hS.2.2 dX1_translate_35
      · rw [b2i_z] at c_19
        rw [Bool.not_eq_false] at c_19
        refine lv_lload_n hx hb dX1_translate_27 rfl (lv_at hl 2 rfl) ?_
        refine lv_goto (tgt := 35) hx hb dX1_translate_28 (by decide) ?_
        have w9_0 : (k_translate w tb su mx cf nu ad ac md).2 = w := (by first | rfl | (simp only [k_translate, c_2, c_6, c_19, b2i, decide_true, decide_false, Bool.not_true, Bool.not_false, Bool.and_true, Bool.and_false, Bool.true_and, Bool.false_and, Bool.or_true, Bool.or_false, Bool.true_or, Bool.false_or, reduceIte, or_true, true_or, or_false, false_or, and_true, true_and, and_false, false_and, not_true_eq_false, not_false_eq_true, Bool.false_eq_true, eq_self]; done) | (simp [k_translate, c_2, c_6, c_19]; done))
        have hP9 : va_P (dC, dI) vwCl (wPW cL cI q0 qw qr qc qn (k_translate w tb su mx cf nu ad ac md).2 tb su mx cf nu) s.heap := (by rw [w9_0]; exact hP)
        have hD9 : va_D A (wPW cL cI q0 qw qr qc qn (k_translate w tb su mx cf nu ad ac md).2 tb su mx cf nu) := (by rw [w9_0]; exact hD)
        exact W.lret (v := ad) hx hb hr (fun t ht hW => ⟨⟨ad, (), rfl, (by first | rfl | (simp only [k_translate, c_2, c_6, c_19, b2i, decide_true, decide_false, Bool.not_true, Bool.not_false, Bool.and_true, Bool.and_false, Bool.true_and, Bool.false_and, Bool.or_true, Bool.or_false, Bool.true_or, Bool.false_or, reduceIte, or_true, true_or, or_false, false_or, and_true, true_and, and_false, false_and, not_true_eq_false, not_false_eq_true, Bool.false_eq_true, eq_self]; done) | (simp [k_translate, c_2, c_6, c_19]; done)), (by rw [ht]; exact hP9), va_K.moved hW.alike hK, hD9⟩, hS.F ht⟩) hS.2.2 dX1_translate_35
set_option maxHeartbeats 4000000 in
set_option maxRecDepth 100000 in
theorem mtX1_find (l : Launch) (dC : Nat → ClassId) (dI : Nat → Nat → Nat) (cL : ClassId) (cI : ClassId) (q0 : Nat) (qw : Nat) (qr : Nat) (qc : Nat) (qn : Nat) (w : Nat → Int64) (tb : Int64) (su : Bool) (mx : Bool) (cf : Nat → Int32) (nu : Nat → Int64) (hz : Nat) (ad : Int64) (ac : Int32) (md : Int32) (sz : Int32) (hi : k_isAccess ad ac md sz = true) : Met l yX1_find wsX1_find ({ frames := 6, cells := 0, slots := 0, locals := 168 }) (va_Pc [.ref q0, .long ad, .int ac, .int md, .int sz] (fun U => U.heap.size = hz ∧ va_P (dC, dI) vwCl (wPW cL cI q0 qw qr qc qn w tb su mx cf nu) U.heap ∧ va_K (dC, dI) vwCl [(cL, .long), (cI, .int)] U ∧ va_D (fun _ => True) (wPW cL cI q0 qw qr qc qn w tb su mx cf nu))) (va_Ql (fun r (_ : Unit) => r = (k_find w tb su mx cf nu ad ac md sz).1) (fun _ t => va_P (dC, dI) vwCl (wPW cL cI q0 qw qr qc qn (k_find w tb su mx cf nu ad ac md sz).2 tb su mx cf nu) t.heap ∧ va_K (dC, dI) vwCl [(cL, .long), (cI, .int)] t ∧ va_D (va_A (wPW cL cI q0 qw qr qc qn w tb su mx cf nu) hz) (wPW cL cI q0 qw qr qc qn (k_find w tb su mx cf nu ad ac md sz).2 tb su mx cf nu)) (va_A (wPW cL cI q0 qw qr qc qn w tb su mx cf nu) hz)) 0 0 (va_A (wPW cL cI q0 qw qr qc qn w tb su mx cf nu) hz) := by
  refine Met.ofW (cc := cX1_find) (maxL := 8) (ret := (some .long)) (by decide) rfl ?_
  intro p e s m args below meth c s₁ B hml hv
  obtain ⟨rfl, hsz, hP, hK, hD0⟩ := hv
  have hx := B.exec
  have hb := B.bytes
  have hr := B.returns
  have hts := atoms_spec (ws := wsX1_find) B.pre
  have hown : s.vm.findClass RX1 = some m.cls := findClass_of_methodNamed B.named
  have hlocks := B.notSynchronized
  subst hsz
  have hD := hD0.self (sz := s.heap.size)
  generalize hAe : va_A (wPW cL cI q0 qw qr qc qn w tb su mx cf nu) s.heap.size = A at hD ⊢
  have hA : ∀ q : Nat, s.heap.size ≤ q → A q := fun q h => by rw [← hAe]; exact Or.inr h
  have hS : va_S A s.heap s.heap [] := va_S.rf
  have hP : va_P (dC, dI) vwCl [(q0, .inr (1, [.ref qw, .ref qr, .long tb, .int (b2i su), .int (b2i mx)])), (qw, .inl (cL, 8192, .inr (.inl w))), (qr, .inr (0, [.ref qc, .ref qn])), (qc, .inl (cI, 8, .inl cf)), (qn, .inl (cL, 8, .inr (.inl nu)))] s.heap := hP
  have hD : va_D A [(q0, .inr (1, [.ref qw, .ref qr, .long tb, .int (b2i su), .int (b2i mx)])), (qw, .inl (cL, 8192, .inr (.inl w))), (qr, .inr (0, [.ref qc, .ref qn])), (qc, .inl (cI, 8, .inl cf)), (qn, .inl (cL, 8, .inr (.inl nu)))] := hD
  have hl := lv_entry ([.ref q0, .long ad, .int ac, .int md, .int sz]) (n := 8) (Nat.le_of_ble_eq_true rfl)
  rw [lg_entry_eq]
  generalize (lg_sl ([.ref q0, .long ad, .int ac, .int md, .int sz]) ++ List.replicate (8 - (lg_sl ([.ref q0, .long ad, .int ac, .int md, .int sz])).length) Slot.unset).toArray = ls at hl ⊢
  have hl : lv_has ls 8 [(0, .ref q0), (1, .long ad), (3, .int ac), (4, .int md), (5, .int sz)] := hl
  refine lv_lload_n hx hb dX1_find_0 rfl (lv_at hl 1 rfl) ?_
  refine lv_iload_n hx hb dX1_find_1 rfl (lv_at hl 2 rfl) ?_
  refine lv_iload hx hb dX1_find_2 (lv_at hl 3 rfl) ?_
  refine lv_iload hx hb dX1_find_4 (lv_at hl 4 rfl) ?_
  refine vp_callSi (W.runS (As := [.long ad, .int ac, .int md, .int sz]) (rest := []) ⟨hx, hb, hml, hown, hts⟩ (mtX1_isAccess l ad ac md sz) (va_cwS 4 hts (gAll (mc1 (wa 250 (by decide +kernel) rfl) (mc1 (wa 251 (by decide +kernel) rfl) (mc1 (wa 15 (by decide +kernel) rfl) mc0))) (wa 252 (by decide +kernel) rfl) (by decide +kernel)) rfl rfl rfl (by decide +kernel) ⟨Nat.le_of_ble_eq_true rfl, Nat.le_of_ble_eq_true rfl⟩) preEq rfl rfl hl.1 rfl (lv_room (Nat.le_of_ble_eq_true rfl)) dX1_find_6 ⟨Nat.le_of_ble_eq_true rfl, Nat.le_of_ble_eq_true rfl⟩) (fun r_1 er_1 => ?_)
  have er_1 : r_1 = (b2i (k_isAccess ad ac md sz)) := er_1
  subst er_1
  refine lv_if_ne (tgt := 22) hx hb dX1_find_9 (by decide) (fun c_2 => ?_) (fun c_2 => ?_)
  · rw [b2i_z] at c_2
    rw [Bool.not_eq_false] at c_2
    refine lv_aload_n hx hb dX1_find_22 rfl (lv_at hl 0 rfl) ?_
    refine lv_lload_n hx hb dX1_find_23 rfl (lv_at hl 1 rfl) ?_
    refine lv_iload_n hx hb dX1_find_24 rfl (lv_at hl 2 rfl) ?_
    refine lv_iload hx hb dX1_find_25 (lv_at hl 3 rfl) ?_
    have hPc := hP.sub (ws' := (wPW cL cI q0 qw qr qc qn w tb su mx cf nu)) [0, 1, 2, 3, 4] rfl
    have hDc := hD.sub (ws' := (wPW cL cI q0 qw qr qc qn w tb su mx cf nu)) [0, 1, 2, 3, 4] (by decide) rfl
    have hFc := va_free (wc := (wPW cL cI q0 qw qr qc qn w tb su mx cf nu)) hD hS hA [0, 1, 2, 3, 4] rfl
    refine va_calll (va_runV (As := [.long ad, .int ac, .int md]) (rest := []) ⟨hx, hb, hml, hown, hts⟩ (mtX1_translate l dC dI cL cI q0 qw qr qc qn w tb su mx cf nu s.heap.size ad ac md ) (cwV 3 hts (gAll (mc1 (wa 256 (by decide +kernel) rfl) (mc1 (wa 258 (by decide +kernel) rfl) (mc1 (wa 1 (by decide +kernel) rfl) (mc1 (wa 15 (by decide +kernel) rfl) mc0)))) (wa 259 (by decide +kernel) rfl) (by decide +kernel)) rfl rfl rfl (by decide +kernel) ⟨Nat.le_of_ble_eq_true rfl, Nat.le_of_ble_eq_true rfl⟩) (mu_pre (ci := 1) (q0 := 0) hK hPc hDc rfl rfl) rfl rfl hl.1 rfl (lv_room (Nat.le_of_ble_eq_true rfl)) dX1_find_27 ⟨Nat.le_of_ble_eq_true rfl, Nat.le_of_ble_eq_true rfl⟩) hS (fun q _ h => hFc q h) hFc (fun r_3 u t H1 locs ht hvm hw hB hz1 hk1 hS => ?_)
    obtain ⟨hP1, hK1, hD1⟩ := hB
    rw [ht] at hP1
    obtain ⟨hP, hD⟩ := va_join (wr := []) (w1 := (wPW cL cI q0 qw qr qc qn (k_translate w tb su mx cf nu ad ac md).2 tb su mx cf nu)) hP hD [0, 1, 2, 3, 4] [] rfl rfl (by decide) (by decide) hk1 hFc hP1 hD1
    generalize H1 = H at hP hS ⊢
    have hP : va_P (dC, dI) vwCl [(q0, .inr (1, [.ref qw, .ref qr, .long tb, .int (b2i su), .int (b2i mx)])), (qw, .inl (cL, 8192, .inr (.inl (k_translate w tb su mx cf nu ad ac md).2))), (qr, .inr (0, [.ref qc, .ref qn])), (qc, .inl (cI, 8, .inl cf)), (qn, .inl (cL, 8, .inr (.inl nu)))] H := hP
    have hD : va_D A [(q0, .inr (1, [.ref qw, .ref qr, .long tb, .int (b2i su), .int (b2i mx)])), (qw, .inl (cL, 8192, .inr (.inl (k_translate w tb su mx cf nu ad ac md).2))), (qr, .inr (0, [.ref qc, .ref qn])), (qc, .inl (cI, 8, .inl cf)), (qn, .inl (cL, 8, .inr (.inl nu)))] := hD
    have er_3 : r_3 = (k_translate w tb su mx cf nu ad ac md).1 := hw
    subst er_3
    refine lv_lstore (lv' := [(6, .long (k_translate w tb su mx cf nu ad ac md).1), (0, .ref q0), (1, .long ad), (3, .int ac), (4, .int md), (5, .int sz)]) hx hb dX1_find_30 hl (by decide) rfl (fun ls hl => ?_)
    refine lv_lload hx hb dX1_find_32 (lv_at hl 0 rfl) ?_
    refine lv_lconst (v := 0) hx hb dX1_find_34 (by decide) ?_
    refine W.lcmp hx hb dX1_find_35 ?_
    refine lv_if_ge (tgt := 42) hx hb dX1_find_36 (by decide) (fun c_4 => ?_) (fun c_4 => ?_)
    · rw [lg_cmp_ge] at c_4
      refine lv_aload_n hx hb dX1_find_42 rfl (lv_at hl 1 rfl) ?_
      refine va_get (D := (dC, dI)) (ci := 1) (v := .ref qr) (C := RX1) (T := TX1) (N := 5) hx hb hts iwX1 hown hK hP 0 rfl rfl 1 (by decide) (hts (.fieldLink RX1 16 RX1 "regions" "LPageWalker$Regions;") (wa 47 (by decide +kernel) rfl)) (fun _ h9 => h9) rfl dX1_find_43 ?_
      refine lv_lload hx hb dX1_find_46 (lv_at hl 0 rfl) ?_
      refine lv_iload_n hx hb dX1_find_48 rfl (lv_at hl 3 rfl) ?_
      refine lv_iload hx hb dX1_find_49 (lv_at hl 4 rfl) ?_
      refine lv_iload hx hb dX1_find_51 (lv_at hl 5 rfl) ?_
      refine vp_callSi (W.runV (As := [.long (k_translate w tb su mx cf nu ad ac md).1, .int ac, .int md, .int sz]) (rest := []) ⟨hx, hb, hml, hown, hts⟩ (mtX0_letThrough l dC dI cL cI qr qc qn cf nu (k_translate w tb su mx cf nu ad ac md).1 ac md sz ) (cwV 4 hts (gAll (mc1 (wa 287 (by decide +kernel) rfl) (mc1 (wa 288 (by decide +kernel) rfl) (mc1 (wa 289 (by decide +kernel) rfl) (mc1 (wa 16 (by decide +kernel) rfl) mc0)))) (wa 290 (by decide +kernel) rfl) (by decide +kernel)) rfl rfl rfl (by decide +kernel) ⟨Nat.le_of_ble_eq_true rfl, Nat.le_of_ble_eq_true rfl⟩) (rd_pre (ci := 0) (q0 := 0) hK (hP.sub (ws' := (wRG cL cI qr qc qn cf nu)) [2, 3, 4] rfl) rfl rfl) rfl rfl hl.1 rfl (lv_room (Nat.le_of_ble_eq_true rfl)) dX1_find_53 ⟨Nat.le_of_ble_eq_true rfl, Nat.le_of_ble_eq_true rfl⟩) (fun r_5 er_5 => ?_)
      have er_5 : r_5 = (b2i (k_let cf nu (k_translate w tb su mx cf nu ad ac md).1 ac md sz)) := er_5
      subst er_5
      refine lv_if_eq (tgt := 64) hx hb dX1_find_56 (by decide) (fun c_6 => ?_) (fun c_6 => ?_)
      · rw [b2i_z] at c_6
        refine lv_iload_n hx hb dX1_find_64 rfl (lv_at hl 3 rfl) ?_
        refine vp_callSl (W.runS (As := [.int ac]) (rest := []) ⟨hx, hb, hml, hown, hts⟩ (mtX1_accessFault l ac) (va_cwS 1 hts (gAll (mc1 (wa 263 (by decide +kernel) rfl) (mc1 (wa 264 (by decide +kernel) rfl) (mc1 (wa 15 (by decide +kernel) rfl) mc0))) (wa 265 (by decide +kernel) rfl) (by decide +kernel)) rfl rfl rfl (by decide +kernel) ⟨Nat.le_of_ble_eq_true rfl, Nat.le_of_ble_eq_true rfl⟩) preEq rfl rfl hl.1 rfl (lv_room (Nat.le_of_ble_eq_true rfl)) dX1_find_65 ⟨Nat.le_of_ble_eq_true rfl, Nat.le_of_ble_eq_true rfl⟩) (fun r_7 er_7 => ?_)
        have er_7 : r_7 = (k_accessFault ac) := er_7
        subst er_7
        have w9_0 : (k_find w tb su mx cf nu ad ac md sz).2 = (k_translate w tb su mx cf nu ad ac md).2 := (by first | rfl | (simp only [k_find, c_2, c_4, c_6, b2i, decide_true, decide_false, Bool.not_true, Bool.not_false, Bool.and_true, Bool.and_false, Bool.true_and, Bool.false_and, Bool.or_true, Bool.or_false, Bool.true_or, Bool.false_or, reduceIte, or_true, true_or, or_false, false_or, and_true, true_and, and_false, false_and, not_true_eq_false, not_false_eq_true, Bool.false_eq_true, eq_self]; done) | (simp [k_find, c_2, c_4, c_6]; done))
        have hP9 : va_P (dC, dI) vwCl (wPW cL cI q0 qw qr qc qn (k_find w tb su mx cf nu ad ac md sz).2 tb su mx cf nu) H := (by rw [w9_0]; exact hP)
        have hD9 : va_D A (wPW cL cI q0 qw qr qc qn (k_find w tb su mx cf nu ad ac md sz).2 tb su mx cf nu) := (by rw [w9_0]; exact hD)
        exact W.lret (v := (k_accessFault ac)) hx hb hr (fun t ht hW => ⟨⟨(k_accessFault ac), (), rfl, (by first | rfl | (simp only [k_find, c_2, c_4, c_6, b2i, decide_true, decide_false, Bool.not_true, Bool.not_false, Bool.and_true, Bool.and_false, Bool.true_and, Bool.false_and, Bool.or_true, Bool.or_false, Bool.true_or, Bool.false_or, reduceIte, or_true, true_or, or_false, false_or, and_true, true_and, and_false, false_and, not_true_eq_false, not_false_eq_true, Bool.false_eq_true, eq_self]; done) | (simp [k_find, c_2, c_4, c_6]; done)), (by rw [ht]; exact hP9), va_K.moved hW.alike hK, hD9⟩, hS.F ht⟩) hS.2.2 dX1_find_68
      · rw [b2i_z] at c_6
        rw [Bool.not_eq_false] at c_6
        refine lv_lload hx hb dX1_find_59 (lv_at hl 0 rfl) ?_
        refine lv_goto (tgt := 68) hx hb dX1_find_61 (by decide) ?_
        have w9_0 : (k_find w tb su mx cf nu ad ac md sz).2 = (k_translate w tb su mx cf nu ad ac md).2 := (by first | rfl | (simp only [k_find, c_2, c_4, c_6, b2i, decide_true, decide_false, Bool.not_true, Bool.not_false, Bool.and_true, Bool.and_false, Bool.true_and, Bool.false_and, Bool.or_true, Bool.or_false, Bool.true_or, Bool.false_or, reduceIte, or_true, true_or, or_false, false_or, and_true, true_and, and_false, false_and, not_true_eq_false, not_false_eq_true, Bool.false_eq_true, eq_self]; done) | (simp [k_find, c_2, c_4, c_6]; done))
        have hP9 : va_P (dC, dI) vwCl (wPW cL cI q0 qw qr qc qn (k_find w tb su mx cf nu ad ac md sz).2 tb su mx cf nu) H := (by rw [w9_0]; exact hP)
        have hD9 : va_D A (wPW cL cI q0 qw qr qc qn (k_find w tb su mx cf nu ad ac md sz).2 tb su mx cf nu) := (by rw [w9_0]; exact hD)
        exact W.lret (v := (k_translate w tb su mx cf nu ad ac md).1) hx hb hr (fun t ht hW => ⟨⟨(k_translate w tb su mx cf nu ad ac md).1, (), rfl, (by first | rfl | (simp only [k_find, c_2, c_4, c_6, b2i, decide_true, decide_false, Bool.not_true, Bool.not_false, Bool.and_true, Bool.and_false, Bool.true_and, Bool.false_and, Bool.or_true, Bool.or_false, Bool.true_or, Bool.false_or, reduceIte, or_true, true_or, or_false, false_or, and_true, true_and, and_false, false_and, not_true_eq_false, not_false_eq_true, Bool.false_eq_true, eq_self]; done) | (simp [k_find, c_2, c_4, c_6]; done)), (by rw [ht]; exact hP9), va_K.moved hW.alike hK, hD9⟩, hS.F ht⟩) hS.2.2 dX1_find_68
    · rw [lg_cmp_ge] at c_4
      refine lv_lload hx hb dX1_find_39 (lv_at hl 0 rfl) ?_
      have w9_0 : (k_find w tb su mx cf nu ad ac md sz).2 = (k_translate w tb su mx cf nu ad ac md).2 := (by first | rfl | (simp only [k_find, c_2, c_4, b2i, decide_true, decide_false, Bool.not_true, Bool.not_false, Bool.and_true, Bool.and_false, Bool.true_and, Bool.false_and, Bool.or_true, Bool.or_false, Bool.true_or, Bool.false_or, reduceIte, or_true, true_or, or_false, false_or, and_true, true_and, and_false, false_and, not_true_eq_false, not_false_eq_true, Bool.false_eq_true, eq_self]; done) | (simp [k_find, c_2, c_4]; done))
      have hP9 : va_P (dC, dI) vwCl (wPW cL cI q0 qw qr qc qn (k_find w tb su mx cf nu ad ac md sz).2 tb su mx cf nu) H := (by rw [w9_0]; exact hP)
      have hD9 : va_D A (wPW cL cI q0 qw qr qc qn (k_find w tb su mx cf nu ad ac md sz).2 tb su mx cf nu) := (by rw [w9_0]; exact hD)
      exact W.lret (v := (k_translate w tb su mx cf nu ad ac md).1) hx hb hr (fun t ht hW => ⟨⟨(k_translate w tb su mx cf nu ad ac md).1, (), rfl, (by first | rfl | (simp only [k_find, c_2, c_4, b2i, decide_true, decide_false, Bool.not_true, Bool.not_false, Bool.and_true, Bool.and_false, Bool.true_and, Bool.false_and, Bool.or_true, Bool.or_false, Bool.true_or, Bool.false_or, reduceIte, or_true, true_or, or_false, false_or, and_true, true_and, and_false, false_and, not_true_eq_false, not_false_eq_true, Bool.false_eq_true, eq_self]; done) | (simp [k_find, c_2, c_4]; done)), (by rw [ht]; exact hP9), va_K.moved hW.alike hK, hD9⟩, hS.F ht⟩) hS.2.2 dX1_find_41
  · rw [b2i_z] at c_2
    first | exact absurd (c_2.symm.trans hi) (by decide)
