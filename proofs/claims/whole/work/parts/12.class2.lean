set_option maxHeartbeats 4000000 in
set_option maxRecDepth 100000 in
theorem mtX1_table (l : Launch) (dC : Nat → ClassId) (dI : Nat → Nat → Nat) (cL : ClassId) (cI : ClassId) (q0 : Nat) (qw : Nat) (qr : Nat) (qc : Nat) (qn : Nat) (w : Nat → Int64) (tb : Int64) (su : Bool) (mx : Bool) (cf : Nat → Int32) (nu : Nat → Int64)   : Met l yX1_table wsX1_table ({ frames := 0, cells := 0, slots := 0, locals := 0 }) (va_Pc [.ref q0] (fun U => va_P (dC, dI) vwCl (wPW cL cI q0 qw qr qc qn w tb su mx cf nu) U.heap ∧ va_K (dC, dI) vwCl [(cL, .long), (cI, .int)] U)) (vp_Sl (fun r => r = tb)) 0 0 (fun _ => False) := by
  refine Met.ofW (cc := cX1_table) (maxL := 1) (ret := (some .long)) (by decide) rfl ?_
  intro p e s m args below meth c s₁ B hml hv
  obtain ⟨rfl, hP, hK⟩ := hv
  have hx := B.exec
  have hb := B.bytes
  have hr := B.returns
  have hts := atoms_spec (ws := wsX1_table) B.pre
  have hown : s.vm.findClass RX1 = some m.cls := findClass_of_methodNamed B.named
  have hlocks := B.notSynchronized
  have hP : va_P (dC, dI) vwCl [(q0, .inr (1, [.ref qw, .ref qr, .long tb, .int (b2i su), .int (b2i mx)])), (qw, .inl (cL, 8192, .inr (.inl w))), (qr, .inr (0, [.ref qc, .ref qn])), (qc, .inl (cI, 8, .inl cf)), (qn, .inl (cL, 8, .inr (.inl nu)))] s.heap := hP
  have hl := lv_entry ([.ref q0]) (n := 1) (Nat.le_of_ble_eq_true rfl)
  rw [lg_entry_eq]
  generalize (lg_sl ([.ref q0]) ++ List.replicate (1 - (lg_sl ([.ref q0])).length) Slot.unset).toArray = ls at hl ⊢
  have hl : lv_has ls 1 [(0, .ref q0)] := hl
  refine lv_aload_n hx hb dX1_table_0 rfl (lv_at hl 0 rfl) ?_
  refine va_get (D := (dC, dI)) (ci := 1) (v := .long tb) (C := RX1) (T := TX1) (N := 5) hx hb hts iwX1 hown hK hP 0 rfl rfl 2 (by decide) (hts (.fieldLink RX1 20 RX1 "table" "J") (wa 48 (by decide +kernel) rfl)) (fun _ h9 => h9) rfl dX1_table_1 ?_
  exact W.lret (v := tb) hx hb hr (fun t ht hW => ⟨tb, rfl, (by first | rfl | (simp only [b2i, decide_true, decide_false, Bool.not_true, Bool.not_false, Bool.and_true, Bool.and_false, Bool.true_and, Bool.false_and, Bool.or_true, Bool.or_false, Bool.true_or, Bool.false_or, reduceIte, or_true, true_or, or_false, false_or, and_true, true_and, and_false, false_and, not_true_eq_false, not_false_eq_true, Bool.false_eq_true, eq_self]; done) | (simp []; done)), ht⟩) (fun _ h => nomatch h) dX1_table_4
set_option maxHeartbeats 4000000 in
set_option maxRecDepth 100000 in
theorem mtX1_configs (l : Launch) (dC : Nat → ClassId) (dI : Nat → Nat → Nat) (cL : ClassId) (cI : ClassId) (q0 : Nat) (qw : Nat) (qr : Nat) (qc : Nat) (qn : Nat) (w : Nat → Int64) (tb : Int64) (su : Bool) (mx : Bool) (cf : Nat → Int32) (nu : Nat → Int64)   : Met l yX1_configs wsX1_configs ({ frames := 1, cells := 0, slots := 0, locals := 23 }) (va_Pc [.ref q0] (fun U => va_P (dC, dI) vwCl (wPW cL cI q0 qw qr qc qn w tb su mx cf nu) U.heap ∧ va_K (dC, dI) vwCl [(cL, .long), (cI, .int)] U)) (vp_Sl (fun r => r = k_packF cf 8)) 0 0 (fun _ => False) := by
  refine Met.ofW (cc := cX1_configs) (maxL := 1) (ret := (some .long)) (by decide) rfl ?_
  intro p e s m args below meth c s₁ B hml hv
  obtain ⟨rfl, hP, hK⟩ := hv
  have hx := B.exec
  have hb := B.bytes
  have hr := B.returns
  have hts := atoms_spec (ws := wsX1_configs) B.pre
  have hown : s.vm.findClass RX1 = some m.cls := findClass_of_methodNamed B.named
  have hlocks := B.notSynchronized
  have hP : va_P (dC, dI) vwCl [(q0, .inr (1, [.ref qw, .ref qr, .long tb, .int (b2i su), .int (b2i mx)])), (qw, .inl (cL, 8192, .inr (.inl w))), (qr, .inr (0, [.ref qc, .ref qn])), (qc, .inl (cI, 8, .inl cf)), (qn, .inl (cL, 8, .inr (.inl nu)))] s.heap := hP
  have hl := lv_entry ([.ref q0]) (n := 1) (Nat.le_of_ble_eq_true rfl)
  rw [lg_entry_eq]
  generalize (lg_sl ([.ref q0]) ++ List.replicate (1 - (lg_sl ([.ref q0])).length) Slot.unset).toArray = ls at hl ⊢
  have hl : lv_has ls 1 [(0, .ref q0)] := hl
  refine lv_aload_n hx hb dX1_configs_0 rfl (lv_at hl 0 rfl) ?_
  refine va_get (D := (dC, dI)) (ci := 1) (v := .ref qr) (C := RX1) (T := TX1) (N := 5) hx hb hts iwX1 hown hK hP 0 rfl rfl 1 (by decide) (hts (.fieldLink RX1 16 RX1 "regions" "LPageWalker$Regions;") (wa 47 (by decide +kernel) rfl)) (fun _ h9 => h9) rfl dX1_configs_1 ?_
  refine vp_callSl (W.runV (As := []) (rest := []) ⟨hx, hb, hml, hown, hts⟩ (mtX0_packedConfigs l dC dI cL cI qr qc qn cf nu  ) (cwV 0 hts (gAll (mc1 (wa 74 (by decide +kernel) rfl) (mc1 (wa 75 (by decide +kernel) rfl) (mc1 (wa 76 (by decide +kernel) rfl) (mc1 (wa 16 (by decide +kernel) rfl) mc0)))) (wa 77 (by decide +kernel) rfl) (by decide +kernel)) rfl rfl rfl (by decide +kernel) ⟨Nat.le_of_ble_eq_true rfl, Nat.le_of_ble_eq_true rfl⟩) (rd_pre (ci := 0) (q0 := 0) hK (hP.sub (ws' := (wRG cL cI qr qc qn cf nu)) [2, 3, 4] rfl) rfl rfl) rfl rfl hl.1 rfl (lv_room (Nat.le_of_ble_eq_true rfl)) dX1_configs_4 ⟨Nat.le_of_ble_eq_true rfl, Nat.le_of_ble_eq_true rfl⟩) (fun r_1 er_1 => ?_)
  have er_1 : r_1 = (k_packF cf 8) := er_1
  subst er_1
  exact W.lret (v := (k_packF cf 8)) hx hb hr (fun t ht hW => ⟨(k_packF cf 8), rfl, (by first | rfl | (simp only [b2i, decide_true, decide_false, Bool.not_true, Bool.not_false, Bool.and_true, Bool.and_false, Bool.true_and, Bool.false_and, Bool.or_true, Bool.or_false, Bool.true_or, Bool.false_or, reduceIte, or_true, true_or, or_false, false_or, and_true, true_and, and_false, false_and, not_true_eq_false, not_false_eq_true, Bool.false_eq_true, eq_self]; done) | (simp []; done)), ht⟩) (fun _ h => nomatch h) dX1_configs_7
set_option maxHeartbeats 4000000 in
set_option maxRecDepth 100000 in
theorem mtX1_fence (l : Launch) (dC : Nat → ClassId) (dI : Nat → Nat → Nat) (cL : ClassId) (cI : ClassId) (q0 : Nat) (qw : Nat) (qr : Nat) (qc : Nat) (qn : Nat) (w : Nat → Int64) (tb : Int64) (su : Bool) (mx : Bool) (cf : Nat → Int32) (nu : Nat → Int64)   : Met l yX1_fence wsX1_fence ({ frames := 0, cells := 0, slots := 0, locals := 0 }) (va_Pc [.ref q0] (fun U => va_P (dC, dI) vwCl (wPW cL cI q0 qw qr qc qn w tb su mx cf nu) U.heap ∧ va_K (dC, dI) vwCl [(cL, .long), (cI, .int)] U)) (va_Sv (fun _ => True)) 0 0 (fun _ => False) := by
  refine Met.ofW (cc := cX1_fence) (maxL := 1) (ret := none) (by decide) rfl ?_
  intro p e s m args below meth c s₁ B hml hv
  obtain ⟨rfl, hP, hK⟩ := hv
  have hx := B.exec
  have hb := B.bytes
  have hr := B.returns
  have hts := atoms_spec (ws := wsX1_fence) B.pre
  have hown : s.vm.findClass RX1 = some m.cls := findClass_of_methodNamed B.named
  have hlocks := B.notSynchronized
  have hP : va_P (dC, dI) vwCl [(q0, .inr (1, [.ref qw, .ref qr, .long tb, .int (b2i su), .int (b2i mx)])), (qw, .inl (cL, 8192, .inr (.inl w))), (qr, .inr (0, [.ref qc, .ref qn])), (qc, .inl (cI, 8, .inl cf)), (qn, .inl (cL, 8, .inr (.inl nu)))] s.heap := hP
  have hl := lv_entry ([.ref q0]) (n := 1) (Nat.le_of_ble_eq_true rfl)
  rw [lg_entry_eq]
  generalize (lg_sl ([.ref q0]) ++ List.replicate (1 - (lg_sl ([.ref q0])).length) Slot.unset).toArray = ls at hl ⊢
  have hl : lv_has ls 1 [(0, .ref q0)] := hl
  exact W.vret hx hb hr (fun t ht hW => ⟨rfl, trivial, ht⟩) (fun _ h => nomatch h) dX1_fence_0
set_option maxHeartbeats 4000000 in
set_option maxRecDepth 100000 in
theorem mtX1_isOpenToMode (l : Launch) (dC : Nat → ClassId) (dI : Nat → Nat → Nat) (cL : ClassId) (cI : ClassId) (q0 : Nat) (qw : Nat) (qr : Nat) (qc : Nat) (qn : Nat) (w : Nat → Int64) (tb : Int64) (su : Bool) (mx : Bool) (cf : Nat → Int32) (nu : Nat → Int64) (en : Int64) (ac : Int32) (md : Int32)  : Met l yX1_isOpenToMode wsX1_isOpenToMode ({ frames := 1, cells := 0, slots := 0, locals := 23 }) (va_Pc [.ref q0, .long en, .int ac, .int md] (fun U => va_P (dC, dI) vwCl (wPW cL cI q0 qw qr qc qn w tb su mx cf nu) U.heap ∧ va_K (dC, dI) vwCl [(cL, .long), (cI, .int)] U)) (vp_Si (fun r => r = b2i (k_openMode su en ac md))) 0 0 (fun _ => False) := by
  refine Met.ofW (cc := cX1_isOpenToMode) (maxL := 5) (ret := (some .boolean)) (by decide) rfl ?_
  intro p e s m args below meth c s₁ B hml hv
  obtain ⟨rfl, hP, hK⟩ := hv
  have hx := B.exec
  have hb := B.bytes
  have hr := B.returns
  have hts := atoms_spec (ws := wsX1_isOpenToMode) B.pre
  have hown : s.vm.findClass RX1 = some m.cls := findClass_of_methodNamed B.named
  have hlocks := B.notSynchronized
  have hP : va_P (dC, dI) vwCl [(q0, .inr (1, [.ref qw, .ref qr, .long tb, .int (b2i su), .int (b2i mx)])), (qw, .inl (cL, 8192, .inr (.inl w))), (qr, .inr (0, [.ref qc, .ref qn])), (qc, .inl (cI, 8, .inl cf)), (qn, .inl (cL, 8, .inr (.inl nu)))] s.heap := hP
  have hl := lv_entry ([.ref q0, .long en, .int ac, .int md]) (n := 5) (Nat.le_of_ble_eq_true rfl)
  rw [lg_entry_eq]
  generalize (lg_sl ([.ref q0, .long en, .int ac, .int md]) ++ List.replicate (5 - (lg_sl ([.ref q0, .long en, .int ac, .int md])).length) Slot.unset).toArray = ls at hl ⊢
  have hl : lv_has ls 5 [(0, .ref q0), (1, .long en), (3, .int ac), (4, .int md)] := hl
  refine lv_iload hx hb dX1_isOpenToMode_0 (lv_at hl 3 rfl) ?_
  refine lv_if_ne (tgt := 13) hx hb dX1_isOpenToMode_2 (by decide) (fun c_1 => ?_) (fun c_1 => ?_)
  · refine lv_lload_n hx hb dX1_isOpenToMode_13 rfl (lv_at hl 1 rfl) ?_
    refine lv_ldc2 (v := 16) hx hb hown (hts (.constantLong RX1 172 16) (wa 326 (by decide +kernel) rfl)) dX1_isOpenToMode_14 ?_
    refine vp_callSi (W.runS (As := [.long en, .long 16]) (rest := []) ⟨hx, hb, hml, hown, hts⟩ (mtX1_has l en 16) (va_cwS 2 hts (gAll (mc1 (wa 305 (by decide +kernel) rfl) (mc1 (wa 306 (by decide +kernel) rfl) (mc1 (wa 15 (by decide +kernel) rfl) mc0))) (wa 307 (by decide +kernel) rfl) (by decide +kernel)) rfl rfl rfl (by decide +kernel) ⟨Nat.le_of_ble_eq_true rfl, Nat.le_of_ble_eq_true rfl⟩) preEq rfl rfl hl.1 rfl (lv_room (Nat.le_of_ble_eq_true rfl)) dX1_isOpenToMode_17 ⟨Nat.le_of_ble_eq_true rfl, Nat.le_of_ble_eq_true rfl⟩) (fun r_2 er_2 => ?_)
    have er_2 : r_2 = (b2i (k_has en 16)) := er_2
    subst er_2
    refine lv_if_eq (tgt := 34) hx hb dX1_isOpenToMode_20 (by decide) (fun c_3 => ?_) (fun c_3 => ?_)
    · rw [b2i_z] at c_3
      refine lv_iconst (v := 1) hx hb dX1_isOpenToMode_34 (by decide) ?_
      refine lv_goto (tgt := 39) hx hb dX1_isOpenToMode_35 (by decide) ?_
      exact W.zret (v := 1) hx hb hr rfl (fun t ht hW => ⟨1, rfl, (by first | rfl | (simp only [k_openMode, b2i, c_1, c_3, b2i, decide_true, decide_false, Bool.not_true, Bool.not_false, Bool.and_true, Bool.and_false, Bool.true_and, Bool.false_and, Bool.or_true, Bool.or_false, Bool.true_or, Bool.false_or, reduceIte, or_true, true_or, or_false, false_or, and_true, true_and, and_false, false_and, not_true_eq_false, not_false_eq_true, Bool.false_eq_true, eq_self]; done) | (simp [k_openMode, b2i, c_1, c_3]; done)), ht⟩) (fun _ h => nomatch h) dX1_isOpenToMode_39
    · rw [b2i_z] at c_3
      rw [Bool.not_eq_false] at c_3
      refine lv_aload_n hx hb dX1_isOpenToMode_23 rfl (lv_at hl 0 rfl) ?_
      refine va_get (D := (dC, dI)) (ci := 1) (v := .int (b2i su)) (C := RX1) (T := TX1) (N := 5) hx hb hts iwX1 hown hK hP 0 rfl rfl 3 (by decide) (hts (.fieldLink RX1 24 RX1 "sum" "Z") (wa 49 (by decide +kernel) rfl)) (fun _ h9 => h9) rfl dX1_isOpenToMode_24 ?_
      refine lv_if_eq (tgt := 38) hx hb dX1_isOpenToMode_27 (by decide) (fun c_4 => ?_) (fun c_4 => ?_)
      · rw [b2i_z] at c_4
        refine lv_iconst (v := 0) hx hb dX1_isOpenToMode_38 (by decide) ?_
        exact W.zret (v := 0) hx hb hr rfl (fun t ht hW => ⟨0, rfl, (by first | rfl | (simp only [k_openMode, b2i, c_1, c_3, c_4, b2i, decide_true, decide_false, Bool.not_true, Bool.not_false, Bool.and_true, Bool.and_false, Bool.true_and, Bool.false_and, Bool.or_true, Bool.or_false, Bool.true_or, Bool.false_or, reduceIte, or_true, true_or, or_false, false_or, and_true, true_and, and_false, false_and, not_true_eq_false, not_false_eq_true, Bool.false_eq_true, eq_self]; done) | (simp [k_openMode, b2i, c_1, c_3, c_4]; done)), ht⟩) (fun _ h => nomatch h) dX1_isOpenToMode_39
      · rw [b2i_z] at c_4
        rw [Bool.not_eq_false] at c_4
        refine lv_iload_n hx hb dX1_isOpenToMode_30 rfl (lv_at hl 2 rfl) ?_
        refine lv_if_eq (tgt := 38) hx hb dX1_isOpenToMode_31 (by decide) (fun c_5 => ?_) (fun c_5 => ?_)
        · refine lv_iconst (v := 0) hx hb dX1_isOpenToMode_38 (by decide) ?_
          exact W.zret (v := 0) hx hb hr rfl (fun t ht hW => ⟨0, rfl, (by first | rfl | (simp only [k_openMode, b2i, c_1, c_3, c_4, c_5, b2i, decide_true, decide_false, Bool.not_true, Bool.not_false, Bool.and_true, Bool.and_false, Bool.true_and, Bool.false_and, Bool.or_true, Bool.or_false, Bool.true_or, Bool.false_or, reduceIte, or_true, true_or, or_false, false_or, and_true, true_and, and_false, false_and, not_true_eq_false, not_false_eq_true, Bool.false_eq_true, eq_self]; done) | (simp [k_openMode, b2i, c_1, c_3, c_4, c_5]; done)), ht⟩) (fun _ h => nomatch h) dX1_isOpenToMode_39
        · refine lv_iconst (v := 1) hx hb dX1_isOpenToMode_34 (by decide) ?_
          refine lv_goto (tgt := 39) hx hb dX1_isOpenToMode_35 (by decide) ?_
          exact W.zret (v := 1) hx hb hr rfl (fun t ht hW => ⟨1, rfl, (by first | rfl | (simp only [k_openMode, b2i, c_1, c_3, c_4, c_5, b2i, decide_true, decide_false, Bool.not_true, Bool.not_false, Bool.and_true, Bool.and_false, Bool.true_and, Bool.false_and, Bool.or_true, Bool.or_false, Bool.true_or, Bool.false_or, reduceIte, or_true, true_or, or_false, false_or, and_true, true_and, and_false, false_and, not_true_eq_false, not_false_eq_true, Bool.false_eq_true, eq_self]; done) | (simp [k_openMode, b2i, c_1, c_3, c_4, c_5]; done)), ht⟩) (fun _ h => nomatch h) dX1_isOpenToMode_39
  · refine lv_lload_n hx hb dX1_isOpenToMode_5 rfl (lv_at hl 1 rfl) ?_
    refine lv_ldc2 (v := 16) hx hb hown (hts (.constantLong RX1 172 16) (wa 326 (by decide +kernel) rfl)) dX1_isOpenToMode_6 ?_
    refine vp_callSi (W.runS (As := [.long en, .long 16]) (rest := []) ⟨hx, hb, hml, hown, hts⟩ (mtX1_has l en 16) (va_cwS 2 hts (gAll (mc1 (wa 305 (by decide +kernel) rfl) (mc1 (wa 306 (by decide +kernel) rfl) (mc1 (wa 15 (by decide +kernel) rfl) mc0))) (wa 307 (by decide +kernel) rfl) (by decide +kernel)) rfl rfl rfl (by decide +kernel) ⟨Nat.le_of_ble_eq_true rfl, Nat.le_of_ble_eq_true rfl⟩) preEq rfl rfl hl.1 rfl (lv_room (Nat.le_of_ble_eq_true rfl)) dX1_isOpenToMode_9 ⟨Nat.le_of_ble_eq_true rfl, Nat.le_of_ble_eq_true rfl⟩) (fun r_6 er_6 => ?_)
    have er_6 : r_6 = (b2i (k_has en 16)) := er_6
    subst er_6
    exact W.zret (v := (b2i (k_has en 16))) hx hb hr (nar_b2i _) (fun t ht hW => ⟨(b2i (k_has en 16)), rfl, (by first | rfl | (simp only [k_openMode, b2i, c_1, b2i, decide_true, decide_false, Bool.not_true, Bool.not_false, Bool.and_true, Bool.and_false, Bool.true_and, Bool.false_and, Bool.or_true, Bool.or_false, Bool.true_or, Bool.false_or, reduceIte, or_true, true_or, or_false, false_or, and_true, true_and, and_false, false_and, not_true_eq_false, not_false_eq_true, Bool.false_eq_true, eq_self]; done) | (simp [k_openMode, b2i, c_1]; done)), ht⟩) (fun _ h => nomatch h) dX1_isOpenToMode_12
set_option maxHeartbeats 4000000 in
set_option maxRecDepth 100000 in
theorem mtX1_isOpenToAccess (l : Launch) (dC : Nat → ClassId) (dI : Nat → Nat → Nat) (cL : ClassId) (cI : ClassId) (q0 : Nat) (qw : Nat) (qr : Nat) (qc : Nat) (qn : Nat) (w : Nat → Int64) (tb : Int64) (su : Bool) (mx : Bool) (cf : Nat → Int32) (nu : Nat → Int64) (en : Int64) (ac : Int32)  : Met l yX1_isOpenToAccess wsX1_isOpenToAccess ({ frames := 1, cells := 0, slots := 0, locals := 23 }) (va_Pc [.ref q0, .long en, .int ac] (fun U => va_P (dC, dI) vwCl (wPW cL cI q0 qw qr qc qn w tb su mx cf nu) U.heap ∧ va_K (dC, dI) vwCl [(cL, .long), (cI, .int)] U)) (vp_Si (fun r => r = b2i (k_openAccess mx en ac))) 0 0 (fun _ => False) := by
  refine Met.ofW (cc := cX1_isOpenToAccess) (maxL := 4) (ret := (some .boolean)) (by decide) rfl ?_
  intro p e s m args below meth c s₁ B hml hv
  obtain ⟨rfl, hP, hK⟩ := hv
  have hx := B.exec
  have hb := B.bytes
  have hr := B.returns
  have hts := atoms_spec (ws := wsX1_isOpenToAccess) B.pre
  have hown : s.vm.findClass RX1 = some m.cls := findClass_of_methodNamed B.named
  have hlocks := B.notSynchronized
  have hP : va_P (dC, dI) vwCl [(q0, .inr (1, [.ref qw, .ref qr, .long tb, .int (b2i su), .int (b2i mx)])), (qw, .inl (cL, 8192, .inr (.inl w))), (qr, .inr (0, [.ref qc, .ref qn])), (qc, .inl (cI, 8, .inl cf)), (qn, .inl (cL, 8, .inr (.inl nu)))] s.heap := hP
  have hl := lv_entry ([.ref q0, .long en, .int ac]) (n := 4) (Nat.le_of_ble_eq_true rfl)
  rw [lg_entry_eq]
  generalize (lg_sl ([.ref q0, .long en, .int ac]) ++ List.replicate (4 - (lg_sl ([.ref q0, .long en, .int ac])).length) Slot.unset).toArray = ls at hl ⊢
  have hl : lv_has ls 4 [(0, .ref q0), (1, .long en), (3, .int ac)] := hl
  refine lv_iload_n hx hb dX1_isOpenToAccess_0 rfl (lv_at hl 2 rfl) ?_
  refine lv_if_ne (tgt := 12) hx hb dX1_isOpenToAccess_1 (by decide) (fun c_1 => ?_) (fun c_1 => ?_)
  · refine lv_iload_n hx hb dX1_isOpenToAccess_12 rfl (lv_at hl 2 rfl) ?_
    refine lv_iconst (v := 2) hx hb dX1_isOpenToAccess_13 (by decide) ?_
    refine lv_icmp_ne (tgt := 25) hx hb dX1_isOpenToAccess_14 (by decide) (fun c_2 => ?_) (fun c_2 => ?_)
    · refine lv_lload_n hx hb dX1_isOpenToAccess_25 rfl (lv_at hl 1 rfl) ?_
      refine lv_ldc2 (v := 2) hx hb hown (hts (.constantLong RX1 160 2) (wa 309 (by decide +kernel) rfl)) dX1_isOpenToAccess_26 ?_
      refine vp_callSi (W.runS (As := [.long en, .long 2]) (rest := []) ⟨hx, hb, hml, hown, hts⟩ (mtX1_has l en 2) (va_cwS 2 hts (gAll (mc1 (wa 305 (by decide +kernel) rfl) (mc1 (wa 306 (by decide +kernel) rfl) (mc1 (wa 15 (by decide +kernel) rfl) mc0))) (wa 307 (by decide +kernel) rfl) (by decide +kernel)) rfl rfl rfl (by decide +kernel) ⟨Nat.le_of_ble_eq_true rfl, Nat.le_of_ble_eq_true rfl⟩) preEq rfl rfl hl.1 rfl (lv_room (Nat.le_of_ble_eq_true rfl)) dX1_isOpenToAccess_29 ⟨Nat.le_of_ble_eq_true rfl, Nat.le_of_ble_eq_true rfl⟩) (fun r_3 er_3 => ?_)
      have er_3 : r_3 = (b2i (k_has en 2)) := er_3
      subst er_3
      refine lv_if_ne (tgt := 52) hx hb dX1_isOpenToAccess_32 (by decide) (fun c_4 => ?_) (fun c_4 => ?_)
      · rw [b2i_z] at c_4
        rw [Bool.not_eq_false] at c_4
        refine lv_iconst (v := 1) hx hb dX1_isOpenToAccess_52 (by decide) ?_
        refine lv_goto (tgt := 57) hx hb dX1_isOpenToAccess_53 (by decide) ?_
        exact W.zret (v := 1) hx hb hr rfl (fun t ht hW => ⟨1, rfl, (by first | rfl | (simp only [k_openAccess, b2i, c_1, c_2, c_4, b2i, decide_true, decide_false, Bool.not_true, Bool.not_false, Bool.and_true, Bool.and_false, Bool.true_and, Bool.false_and, Bool.or_true, Bool.or_false, Bool.true_or, Bool.false_or, reduceIte, or_true, true_or, or_false, false_or, and_true, true_and, and_false, false_and, not_true_eq_false, not_false_eq_true, Bool.false_eq_true, eq_self]; done) | (simp [k_openAccess, b2i, c_1, c_2, c_4]; done)), ht⟩) (fun _ h => nomatch h) dX1_isOpenToAccess_57
      · rw [b2i_z] at c_4
        refine lv_aload_n hx hb dX1_isOpenToAccess_35 rfl (lv_at hl 0 rfl) ?_
        refine va_get (D := (dC, dI)) (ci := 1) (v := .int (b2i mx)) (C := RX1) (T := TX1) (N := 5) hx hb hts iwX1 hown hK hP 0 rfl rfl 4 (by decide) (hts (.fieldLink RX1 28 RX1 "mxr" "Z") (wa 50 (by decide +kernel) rfl)) (fun _ h9 => h9) rfl dX1_isOpenToAccess_36 ?_
        refine lv_if_eq (tgt := 56) hx hb dX1_isOpenToAccess_39 (by decide) (fun c_5 => ?_) (fun c_5 => ?_)
        · rw [b2i_z] at c_5
          refine lv_iconst (v := 0) hx hb dX1_isOpenToAccess_56 (by decide) ?_
          exact W.zret (v := 0) hx hb hr rfl (fun t ht hW => ⟨0, rfl, (by first | rfl | (simp only [k_openAccess, b2i, c_1, c_2, c_4, c_5, b2i, decide_true, decide_false, Bool.not_true, Bool.not_false, Bool.and_true, Bool.and_false, Bool.true_and, Bool.false_and, Bool.or_true, Bool.or_false, Bool.true_or, Bool.false_or, reduceIte, or_true, true_or, or_false, false_or, and_true, true_and, and_false, false_and, not_true_eq_false, not_false_eq_true, Bool.false_eq_true, eq_self]; done) | (simp [k_openAccess, b2i, c_1, c_2, c_4, c_5]; done)), ht⟩) (fun _ h => nomatch h) dX1_isOpenToAccess_57
        · rw [b2i_z] at c_5
          rw [Bool.not_eq_false] at c_5
          refine lv_lload_n hx hb dX1_isOpenToAccess_42 rfl (lv_at hl 1 rfl) ?_
          refine lv_ldc2 (v := 8) hx hb hown (hts (.constantLong RX1 108 8) (wa 109 (by decide +kernel) rfl)) dX1_isOpenToAccess_43 ?_
          refine vp_callSi (W.runS (As := [.long en, .long 8]) (rest := []) ⟨hx, hb, hml, hown, hts⟩ (mtX1_has l en 8) (va_cwS 2 hts (gAll (mc1 (wa 305 (by decide +kernel) rfl) (mc1 (wa 306 (by decide +kernel) rfl) (mc1 (wa 15 (by decide +kernel) rfl) mc0))) (wa 307 (by decide +kernel) rfl) (by decide +kernel)) rfl rfl rfl (by decide +kernel) ⟨Nat.le_of_ble_eq_true rfl, Nat.le_of_ble_eq_true rfl⟩) preEq rfl rfl hl.1 rfl (lv_room (Nat.le_of_ble_eq_true rfl)) dX1_isOpenToAccess_46 ⟨Nat.le_of_ble_eq_true rfl, Nat.le_of_ble_eq_true rfl⟩) (fun r_6 er_6 => ?_)
          have er_6 : r_6 = (b2i (k_has en 8)) := er_6
          subst er_6
          refine lv_if_eq (tgt := 56) hx hb dX1_isOpenToAccess_49 (by decide) (fun c_7 => ?_) (fun c_7 => ?_)
          · rw [b2i_z] at c_7
            refine lv_iconst (v := 0) hx hb dX1_isOpenToAccess_56 (by decide) ?_
            exact W.zret (v := 0) hx hb hr rfl (fun t ht hW => ⟨0, rfl, (by first | rfl | (simp only [k_openAccess, b2i, c_1, c_2, c_4, c_5, c_7, b2i, decide_true, decide_false, Bool.not_true, Bool.not_false, Bool.and_true, Bool.and_false, Bool.true_and, Bool.false_and, Bool.or_true, Bool.or_false, Bool.true_or, Bool.false_or, reduceIte, or_true, true_or, or_false, false_or, and_true, true_and, and_false, false_and, not_true_eq_false, not_false_eq_true, Bool.false_eq_true, eq_self]; done) | (simp [k_openAccess, b2i, c_1, c_2, c_4, c_5, c_7]; done)), ht⟩) (fun _ h => nomatch h) dX1_isOpenToAccess_57
          · rw [b2i_z] at c_7
            rw [Bool.not_eq_false] at c_7
            refine lv_iconst (v := 1) hx hb dX1_isOpenToAccess_52 (by decide) ?_
            refine lv_goto (tgt := 57) hx hb dX1_isOpenToAccess_53 (by decide) ?_
            exact W.zret (v := 1) hx hb hr rfl (fun t ht hW => ⟨1, rfl, (by first | rfl | (simp only [k_openAccess, b2i, c_1, c_2, c_4, c_5, c_7, b2i, decide_true, decide_false, Bool.not_true, Bool.not_false, Bool.and_true, Bool.and_false, Bool.true_and, Bool.false_and, Bool.or_true, Bool.or_false, Bool.true_or, Bool.false_or, reduceIte, or_true, true_or, or_false, false_or, and_true, true_and, and_false, false_and, not_true_eq_false, not_false_eq_true, Bool.false_eq_true, eq_self]; done) | (simp [k_openAccess, b2i, c_1, c_2, c_4, c_5, c_7]; done)), ht⟩) (fun _ h => nomatch h) dX1_isOpenToAccess_57
    · refine lv_lload_n hx hb dX1_isOpenToAccess_17 rfl (lv_at hl 1 rfl) ?_
      refine lv_ldc2 (v := 4) hx hb hown (hts (.constantLong RX1 158 4) (wa 308 (by decide +kernel) rfl)) dX1_isOpenToAccess_18 ?_
      refine vp_callSi (W.runS (As := [.long en, .long 4]) (rest := []) ⟨hx, hb, hml, hown, hts⟩ (mtX1_has l en 4) (va_cwS 2 hts (gAll (mc1 (wa 305 (by decide +kernel) rfl) (mc1 (wa 306 (by decide +kernel) rfl) (mc1 (wa 15 (by decide +kernel) rfl) mc0))) (wa 307 (by decide +kernel) rfl) (by decide +kernel)) rfl rfl rfl (by decide +kernel) ⟨Nat.le_of_ble_eq_true rfl, Nat.le_of_ble_eq_true rfl⟩) preEq rfl rfl hl.1 rfl (lv_room (Nat.le_of_ble_eq_true rfl)) dX1_isOpenToAccess_21 ⟨Nat.le_of_ble_eq_true rfl, Nat.le_of_ble_eq_true rfl⟩) (fun r_8 er_8 => ?_)
      have er_8 : r_8 = (b2i (k_has en 4)) := er_8
      subst er_8
      exact W.zret (v := (b2i (k_has en 4))) hx hb hr (nar_b2i _) (fun t ht hW => ⟨(b2i (k_has en 4)), rfl, (by first | rfl | (simp only [k_openAccess, b2i, c_1, c_2, b2i, decide_true, decide_false, Bool.not_true, Bool.not_false, Bool.and_true, Bool.and_false, Bool.true_and, Bool.false_and, Bool.or_true, Bool.or_false, Bool.true_or, Bool.false_or, reduceIte, or_true, true_or, or_false, false_or, and_true, true_and, and_false, false_and, not_true_eq_false, not_false_eq_true, Bool.false_eq_true, eq_self]; done) | (simp [k_openAccess, b2i, c_1, c_2]; done)), ht⟩) (fun _ h => nomatch h) dX1_isOpenToAccess_24
  · refine lv_lload_n hx hb dX1_isOpenToAccess_4 rfl (lv_at hl 1 rfl) ?_
    refine lv_ldc2 (v := 8) hx hb hown (hts (.constantLong RX1 108 8) (wa 109 (by decide +kernel) rfl)) dX1_isOpenToAccess_5 ?_
    refine vp_callSi (W.runS (As := [.long en, .long 8]) (rest := []) ⟨hx, hb, hml, hown, hts⟩ (mtX1_has l en 8) (va_cwS 2 hts (gAll (mc1 (wa 305 (by decide +kernel) rfl) (mc1 (wa 306 (by decide +kernel) rfl) (mc1 (wa 15 (by decide +kernel) rfl) mc0))) (wa 307 (by decide +kernel) rfl) (by decide +kernel)) rfl rfl rfl (by decide +kernel) ⟨Nat.le_of_ble_eq_true rfl, Nat.le_of_ble_eq_true rfl⟩) preEq rfl rfl hl.1 rfl (lv_room (Nat.le_of_ble_eq_true rfl)) dX1_isOpenToAccess_8 ⟨Nat.le_of_ble_eq_true rfl, Nat.le_of_ble_eq_true rfl⟩) (fun r_9 er_9 => ?_)
    have er_9 : r_9 = (b2i (k_has en 8)) := er_9
    subst er_9
    exact W.zret (v := (b2i (k_has en 8))) hx hb hr (nar_b2i _) (fun t ht hW => ⟨(b2i (k_has en 8)), rfl, (by first | rfl | (simp only [k_openAccess, b2i, c_1, b2i, decide_true, decide_false, Bool.not_true, Bool.not_false, Bool.and_true, Bool.and_false, Bool.true_and, Bool.false_and, Bool.or_true, Bool.or_false, Bool.true_or, Bool.false_or, reduceIte, or_true, true_or, or_false, false_or, and_true, true_and, and_false, false_and, not_true_eq_false, not_false_eq_true, Bool.false_eq_true, eq_self]; done) | (simp [k_openAccess, b2i, c_1]; done)), ht⟩) (fun _ h => nomatch h) dX1_isOpenToAccess_11
set_option maxHeartbeats 4000000 in
set_option maxRecDepth 100000 in
theorem mtX1_grants (l : Launch) (dC : Nat → ClassId) (dI : Nat → Nat → Nat) (cL : ClassId) (cI : ClassId) (q0 : Nat) (qw : Nat) (qr : Nat) (qc : Nat) (qn : Nat) (w : Nat → Int64) (tb : Int64) (su : Bool) (mx : Bool) (cf : Nat → Int32) (nu : Nat → Int64) (en : Int64) (ac : Int32) (md : Int32) (d : Int32)  : Met l yX1_grants wsX1_grants ({ frames := 2, cells := 0, slots := 0, locals := 47 }) (va_Pc [.ref q0, .long en, .int ac, .int md, .int d] (fun U => va_P (dC, dI) vwCl (wPW cL cI q0 qw qr qc qn w tb su mx cf nu) U.heap ∧ va_K (dC, dI) vwCl [(cL, .long), (cI, .int)] U)) (vp_Si (fun r => r = b2i (k_grants su mx en ac md d))) 0 0 (fun _ => False) := by
  refine Met.ofW (cc := cX1_grants) (maxL := 8) (ret := (some .boolean)) (by decide) rfl ?_
  intro p e s m args below meth c s₁ B hml hv
  obtain ⟨rfl, hP, hK⟩ := hv
  have hx := B.exec
  have hb := B.bytes
  have hr := B.returns
  have hts := atoms_spec (ws := wsX1_grants) B.pre
  have hown : s.vm.findClass RX1 = some m.cls := findClass_of_methodNamed B.named
  have hlocks := B.notSynchronized
  have hP : va_P (dC, dI) vwCl [(q0, .inr (1, [.ref qw, .ref qr, .long tb, .int (b2i su), .int (b2i mx)])), (qw, .inl (cL, 8192, .inr (.inl w))), (qr, .inr (0, [.ref qc, .ref qn])), (qc, .inl (cI, 8, .inl cf)), (qn, .inl (cL, 8, .inr (.inl nu)))] s.heap := hP
  have hl := lv_entry ([.ref q0, .long en, .int ac, .int md, .int d]) (n := 8) (Nat.le_of_ble_eq_true rfl)
  rw [lg_entry_eq]
  generalize (lg_sl ([.ref q0, .long en, .int ac, .int md, .int d]) ++ List.replicate (8 - (lg_sl ([.ref q0, .long en, .int ac, .int md, .int d])).length) Slot.unset).toArray = ls at hl ⊢
  have hl : lv_has ls 8 [(0, .ref q0), (1, .long en), (3, .int ac), (4, .int md), (5, .int d)] := hl
  refine lv_lconst (v := 1) hx hb dX1_grants_0 (by decide) ?_
  refine lv_bipush (v := 9) hx hb dX1_grants_1 (by decide) ?_
  refine lv_iload hx hb dX1_grants_3 (lv_at hl 4 rfl) ?_
  refine lv_imul hx hb dX1_grants_5 ?_
  refine lv_lshl (v := (k_shl 1 (9 * d))) hx hb dX1_grants_6 rfl ?_
  refine lv_lconst (v := 1) hx hb dX1_grants_7 (by decide) ?_
  refine lv_lsub hx hb dX1_grants_8 ?_
  refine lv_lstore (lv' := [(6, .long ((k_shl 1 (9 * d)) - 1)), (0, .ref q0), (1, .long en), (3, .int ac), (4, .int md), (5, .int d)]) hx hb dX1_grants_9 hl (by decide) rfl (fun ls hl => ?_)
  refine lv_lload_n hx hb dX1_grants_11 rfl (lv_at hl 2 rfl) ?_
  refine vp_callSl (W.runS (As := [.long en]) (rest := []) ⟨hx, hb, hml, hown, hts⟩ (mtX1_pageNumber l en) (va_cwS 1 hts (gAll (mc1 (wa 319 (by decide +kernel) rfl) (mc1 (wa 320 (by decide +kernel) rfl) (mc1 (wa 15 (by decide +kernel) rfl) mc0))) (wa 321 (by decide +kernel) rfl) (by decide +kernel)) rfl rfl rfl (by decide +kernel) ⟨Nat.le_of_ble_eq_true rfl, Nat.le_of_ble_eq_true rfl⟩) preEq rfl rfl hl.1 rfl (lv_room (Nat.le_of_ble_eq_true rfl)) dX1_grants_12 ⟨Nat.le_of_ble_eq_true rfl, Nat.le_of_ble_eq_true rfl⟩) (fun r_1 er_1 => ?_)
  have er_1 : r_1 = (k_pageNumber en) := er_1
  subst er_1
  refine lv_lload hx hb dX1_grants_15 (lv_at hl 0 rfl) ?_
  refine lv_land hx hb dX1_grants_17 ?_
  refine lv_lconst (v := 0) hx hb dX1_grants_18 (by decide) ?_
  refine W.lcmp hx hb dX1_grants_19 ?_
  refine lv_if_ne (tgt := 47) hx hb dX1_grants_20 (by decide) (fun c_2 => ?_) (fun c_2 => ?_)
  · rw [lg_cmp_eq] at c_2
    refine lv_iconst (v := 0) hx hb dX1_grants_47 (by decide) ?_
    exact W.zret (v := 0) hx hb hr rfl (fun t ht hW => ⟨0, rfl, (by first | rfl | (simp only [k_grants, b2i, c_2, b2i, decide_true, decide_false, Bool.not_true, Bool.not_false, Bool.and_true, Bool.and_false, Bool.true_and, Bool.false_and, Bool.or_true, Bool.or_false, Bool.true_or, Bool.false_or, reduceIte, or_true, true_or, or_false, false_or, and_true, true_and, and_false, false_and, not_true_eq_false, not_false_eq_true, Bool.false_eq_true, eq_self]; done) | (simp [k_grants, b2i, c_2]; done)), ht⟩) (fun _ h => nomatch h) dX1_grants_48
  · rw [lg_cmp_eq] at c_2
    refine lv_aload_n hx hb dX1_grants_23 rfl (lv_at hl 1 rfl) ?_
    refine lv_lload_n hx hb dX1_grants_24 rfl (lv_at hl 2 rfl) ?_
    refine lv_iload_n hx hb dX1_grants_25 rfl (lv_at hl 3 rfl) ?_
    refine lv_iload hx hb dX1_grants_26 (lv_at hl 4 rfl) ?_
    refine vp_callSi (W.runV (As := [.long en, .int ac, .int md]) (rest := []) ⟨hx, hb, hml, hown, hts⟩ (mtX1_isOpenToMode l dC dI cL cI q0 qw qr qc qn w tb su mx cf nu en ac md ) (cwV 3 hts (gAll (mc1 (wa 322 (by decide +kernel) rfl) (mc1 (wa 324 (by decide +kernel) rfl) (mc1 (wa 4 (by decide +kernel) rfl) (mc1 (wa 15 (by decide +kernel) rfl) mc0)))) (wa 325 (by decide +kernel) rfl) (by decide +kernel)) rfl rfl rfl (by decide +kernel) ⟨Nat.le_of_ble_eq_true rfl, Nat.le_of_ble_eq_true rfl⟩) (rd_pre (ci := 1) (q0 := 0) hK hP rfl rfl) rfl rfl hl.1 rfl (lv_room (Nat.le_of_ble_eq_true rfl)) dX1_grants_28 ⟨Nat.le_of_ble_eq_true rfl, Nat.le_of_ble_eq_true rfl⟩) (fun r_3 er_3 => ?_)
    have er_3 : r_3 = (b2i (k_openMode su en ac md)) := er_3
    subst er_3
    refine lv_if_eq (tgt := 47) hx hb dX1_grants_31 (by decide) (fun c_4 => ?_) (fun c_4 => ?_)
    · rw [b2i_z] at c_4
      refine lv_iconst (v := 0) hx hb dX1_grants_47 (by decide) ?_
      exact W.zret (v := 0) hx hb hr rfl (fun t ht hW => ⟨0, rfl, (by first | rfl | (simp only [k_grants, b2i, c_2, c_4, b2i, decide_true, decide_false, Bool.not_true, Bool.not_false, Bool.and_true, Bool.and_false, Bool.true_and, Bool.false_and, Bool.or_true, Bool.or_false, Bool.true_or, Bool.false_or, reduceIte, or_true, true_or, or_false, false_or, and_true, true_and, and_false, false_and, not_true_eq_false, not_false_eq_true, Bool.false_eq_true, eq_self]; done) | (simp [k_grants, b2i, c_2, c_4]; done)), ht⟩) (fun _ h => nomatch h) dX1_grants_48
    · rw [b2i_z] at c_4
      rw [Bool.not_eq_false] at c_4
      refine lv_aload_n hx hb dX1_grants_34 rfl (lv_at hl 1 rfl) ?_
      refine lv_lload_n hx hb dX1_grants_35 rfl (lv_at hl 2 rfl) ?_
      refine lv_iload_n hx hb dX1_grants_36 rfl (lv_at hl 3 rfl) ?_
      refine vp_callSi (W.runV (As := [.long en, .int ac]) (rest := []) ⟨hx, hb, hml, hown, hts⟩ (mtX1_isOpenToAccess l dC dI cL cI q0 qw qr qc qn w tb su mx cf nu en ac ) (cwV 2 hts (gAll (mc1 (wa 327 (by decide +kernel) rfl) (mc1 (wa 329 (by decide +kernel) rfl) (mc1 (wa 5 (by decide +kernel) rfl) (mc1 (wa 15 (by decide +kernel) rfl) mc0)))) (wa 330 (by decide +kernel) rfl) (by decide +kernel)) rfl rfl rfl (by decide +kernel) ⟨Nat.le_of_ble_eq_true rfl, Nat.le_of_ble_eq_true rfl⟩) (rd_pre (ci := 1) (q0 := 0) hK hP rfl rfl) rfl rfl hl.1 rfl (lv_room (Nat.le_of_ble_eq_true rfl)) dX1_grants_37 ⟨Nat.le_of_ble_eq_true rfl, Nat.le_of_ble_eq_true rfl⟩) (fun r_5 er_5 => ?_)
      have er_5 : r_5 = (b2i (k_openAccess mx en ac)) := er_5
      subst er_5
      refine lv_if_eq (tgt := 47) hx hb dX1_grants_40 (by decide) (fun c_6 => ?_) (fun c_6 => ?_)
      · rw [b2i_z] at c_6
        refine lv_iconst (v := 0) hx hb dX1_grants_47 (by decide) ?_
        exact W.zret (v := 0) hx hb hr rfl (fun t ht hW => ⟨0, rfl, (by first | rfl | (simp only [k_grants, b2i, c_2, c_4, c_6, b2i, decide_true, decide_false, Bool.not_true, Bool.not_false, Bool.and_true, Bool.and_false, Bool.true_and, Bool.false_and, Bool.or_true, Bool.or_false, Bool.true_or, Bool.false_or, reduceIte, or_true, true_or, or_false, false_or, and_true, true_and, and_false, false_and, not_true_eq_false, not_false_eq_true, Bool.false_eq_true, eq_self]; done) | (simp [k_grants, b2i, c_2, c_4, c_6]; done)), ht⟩) (fun _ h => nomatch h) dX1_grants_48
      · rw [b2i_z] at c_6
        rw [Bool.not_eq_false] at c_6
        refine lv_iconst (v := 1) hx hb dX1_grants_43 (by decide) ?_
        refine lv_goto (tgt := 48) hx hb dX1_grants_44 (by decide) ?_
        exact W.zret (v := 1) hx hb hr rfl (fun t ht hW => ⟨1, rfl, (by first | rfl | (simp only [k_grants, b2i, c_2, c_4, c_6, b2i, decide_true, decide_false, Bool.not_true, Bool.not_false, Bool.and_true, Bool.and_false, Bool.true_and, Bool.false_and, Bool.or_true, Bool.or_false, Bool.true_or, Bool.false_or, reduceIte, or_true, true_or, or_false, false_or, and_true, true_and, and_false, false_and, not_true_eq_false, not_false_eq_true, Bool.false_eq_true, eq_self]; done) | (simp [k_grants, b2i, c_2, c_4, c_6]; done)), ht⟩) (fun _ h => nomatch h) dX1_grants_48
set_option maxHeartbeats 4000000 in
set_option maxRecDepth 100000 in
theorem mtX1_number (l : Launch) (dC : Nat → ClassId) (dI : Nat → Nat → Nat) (cL : ClassId) (cI : ClassId) (q0 : Nat) (qw : Nat) (qr : Nat) (qc : Nat) (qn : Nat) (w : Nat → Int64) (tb : Int64) (su : Bool) (mx : Bool) (cf : Nat → Int32) (nu : Nat → Int64) (i : Int32) (hi0 : ¬ i < 0) (hi8 : i < 8) : Met l yX1_number wsX1_number ({ frames := 1, cells := 0, slots := 0, locals := 21 }) (va_Pc [.ref q0, .int i] (fun U => va_P (dC, dI) vwCl (wPW cL cI q0 qw qr qc qn w tb su mx cf nu) U.heap ∧ va_K (dC, dI) vwCl [(cL, .long), (cI, .int)] U)) (vp_Sl (fun r => r = nu (Int32.toNatClampNeg i))) 0 0 (fun _ => False) := by
  refine Met.ofW (cc := cX1_number) (maxL := 2) (ret := (some .long)) (by decide) rfl ?_
  intro p e s m args below meth c s₁ B hml hv
  obtain ⟨rfl, hP, hK⟩ := hv
  have hx := B.exec
  have hb := B.bytes
  have hr := B.returns
  have hts := atoms_spec (ws := wsX1_number) B.pre
  have hown : s.vm.findClass RX1 = some m.cls := findClass_of_methodNamed B.named
  have hlocks := B.notSynchronized
  have hP : va_P (dC, dI) vwCl [(q0, .inr (1, [.ref qw, .ref qr, .long tb, .int (b2i su), .int (b2i mx)])), (qw, .inl (cL, 8192, .inr (.inl w))), (qr, .inr (0, [.ref qc, .ref qn])), (qc, .inl (cI, 8, .inl cf)), (qn, .inl (cL, 8, .inr (.inl nu)))] s.heap := hP
  have hl := lv_entry ([.ref q0, .int i]) (n := 2) (Nat.le_of_ble_eq_true rfl)
  rw [lg_entry_eq]
  generalize (lg_sl ([.ref q0, .int i]) ++ List.replicate (2 - (lg_sl ([.ref q0, .int i])).length) Slot.unset).toArray = ls at hl ⊢
  have hl : lv_has ls 2 [(0, .ref q0), (1, .int i)] := hl
  refine lv_aload_n hx hb dX1_number_0 rfl (lv_at hl 0 rfl) ?_
  refine va_get (D := (dC, dI)) (ci := 1) (v := .ref qr) (C := RX1) (T := TX1) (N := 5) hx hb hts iwX1 hown hK hP 0 rfl rfl 1 (by decide) (hts (.fieldLink RX1 16 RX1 "regions" "LPageWalker$Regions;") (wa 47 (by decide +kernel) rfl)) (fun _ h9 => h9) rfl dX1_number_1 ?_
  refine lv_iload_n hx hb dX1_number_4 rfl (lv_at hl 1 rfl) ?_
  refine vp_callSl (W.runV (As := [.int i]) (rest := []) ⟨hx, hb, hml, hown, hts⟩ (mtX0_numberOf l dC dI cL cI qr qc qn cf nu i (hi0) (hi8)) (cwV 1 hts (gAll (mc1 (wa 218 (by decide +kernel) rfl) (mc1 (wa 219 (by decide +kernel) rfl) (mc1 (wa 220 (by decide +kernel) rfl) (mc1 (wa 16 (by decide +kernel) rfl) mc0)))) (wa 221 (by decide +kernel) rfl) (by decide +kernel)) rfl rfl rfl (by decide +kernel) ⟨Nat.le_of_ble_eq_true rfl, Nat.le_of_ble_eq_true rfl⟩) (rd_pre (ci := 0) (q0 := 0) hK (hP.sub (ws' := (wRG cL cI qr qc qn cf nu)) [2, 3, 4] rfl) rfl rfl) rfl rfl hl.1 rfl (lv_room (Nat.le_of_ble_eq_true rfl)) dX1_number_5 ⟨Nat.le_of_ble_eq_true rfl, Nat.le_of_ble_eq_true rfl⟩) (fun r_1 er_1 => ?_)
  have er_1 : r_1 = (nu (Int32.toNatClampNeg i)) := er_1
  subst er_1
  exact W.lret (v := (nu (Int32.toNatClampNeg i))) hx hb hr (fun t ht hW => ⟨(nu (Int32.toNatClampNeg i)), rfl, (by first | rfl | (simp only [b2i, decide_true, decide_false, Bool.not_true, Bool.not_false, Bool.and_true, Bool.and_false, Bool.true_and, Bool.false_and, Bool.or_true, Bool.or_false, Bool.true_or, Bool.false_or, reduceIte, or_true, true_or, or_false, false_or, and_true, true_and, and_false, false_and, not_true_eq_false, not_false_eq_true, Bool.false_eq_true, eq_self]; done) | (simp []; done)), ht⟩) (fun _ h => nomatch h) dX1_number_8
set_option maxHeartbeats 4000000 in
set_option maxRecDepth 100000 in
theorem mtX1_word (l : Launch) (dC : Nat → ClassId) (dI : Nat → Nat → Nat) (cL : ClassId) (cI : ClassId) (q0 : Nat) (qw : Nat) (qr : Nat) (qc : Nat) (qn : Nat) (w : Nat → Int64) (tb : Int64) (su : Bool) (mx : Bool) (cf : Nat → Int32) (nu : Nat → Int64) (ad : Int64) (hi : ¬ k_wordIndex ad = -1) : Met l yX1_word wsX1_word ({ frames := 1, cells := 0, slots := 0, locals := 23 }) (va_Pc [.ref q0, .long ad] (fun U => va_P (dC, dI) vwCl (wPW cL cI q0 qw qr qc qn w tb su mx cf nu) U.heap ∧ va_K (dC, dI) vwCl [(cL, .long), (cI, .int)] U)) (vp_Sl (fun r => r = k_at w ad)) 0 0 (fun _ => False) := by
  refine Met.ofW (cc := cX1_word) (maxL := 4) (ret := (some .long)) (by decide) rfl ?_
  intro p e s m args below meth c s₁ B hml hv
  obtain ⟨rfl, hP, hK⟩ := hv
  have hx := B.exec
  have hb := B.bytes
  have hr := B.returns
  have hts := atoms_spec (ws := wsX1_word) B.pre
  have hown : s.vm.findClass RX1 = some m.cls := findClass_of_methodNamed B.named
  have hlocks := B.notSynchronized
  have hP : va_P (dC, dI) vwCl [(q0, .inr (1, [.ref qw, .ref qr, .long tb, .int (b2i su), .int (b2i mx)])), (qw, .inl (cL, 8192, .inr (.inl w))), (qr, .inr (0, [.ref qc, .ref qn])), (qc, .inl (cI, 8, .inl cf)), (qn, .inl (cL, 8, .inr (.inl nu)))] s.heap := hP
  have hl := lv_entry ([.ref q0, .long ad]) (n := 4) (Nat.le_of_ble_eq_true rfl)
  rw [lg_entry_eq]
  generalize (lg_sl ([.ref q0, .long ad]) ++ List.replicate (4 - (lg_sl ([.ref q0, .long ad])).length) Slot.unset).toArray = ls at hl ⊢
  have hl : lv_has ls 4 [(0, .ref q0), (1, .long ad)] := hl
  refine lv_lload_n hx hb dX1_word_0 rfl (lv_at hl 1 rfl) ?_
  refine vp_callSi (W.runS (As := [.long ad]) (rest := []) ⟨hx, hb, hml, hown, hts⟩ (mtX1_wordIndex l ad) (va_cwS 1 hts (gAll (mc1 (wa 104 (by decide +kernel) rfl) (mc1 (wa 105 (by decide +kernel) rfl) (mc1 (wa 15 (by decide +kernel) rfl) mc0))) (wa 106 (by decide +kernel) rfl) (by decide +kernel)) rfl rfl rfl (by decide +kernel) ⟨Nat.le_of_ble_eq_true rfl, Nat.le_of_ble_eq_true rfl⟩) preEq rfl rfl hl.1 rfl (lv_room (Nat.le_of_ble_eq_true rfl)) dX1_word_1 ⟨Nat.le_of_ble_eq_true rfl, Nat.le_of_ble_eq_true rfl⟩) (fun r_1 er_1 => ?_)
  have er_1 : r_1 = (k_wordIndex ad) := er_1
  subst er_1
  refine lv_istore_n (lv' := [(3, .int (k_wordIndex ad)), (0, .ref q0), (1, .long ad)]) hx hb dX1_word_4 rfl hl (by decide) rfl (fun ls hl => ?_)
  refine lv_iload_n hx hb dX1_word_5 rfl (lv_at hl 0 rfl) ?_
  refine lv_iconst (v := (-1)) hx hb dX1_word_6 (by decide) ?_
  refine lv_icmp_ne (tgt := 20) hx hb dX1_word_7 (by decide) (fun c_2 => ?_) (fun c_2 => ?_)
  · refine lv_aload_n hx hb dX1_word_20 rfl (lv_at hl 1 rfl) ?_
    refine va_get (D := (dC, dI)) (ci := 1) (v := .ref qw) (C := RX1) (T := TX1) (N := 5) hx hb hts iwX1 hown hK hP 0 rfl rfl 0 (by decide) (hts (.fieldLink RX1 9 RX1 "words" "[J") (wa 46 (by decide +kernel) rfl)) (fun _ h9 => h9) rfl dX1_word_21 ?_
    refine lv_iload_n hx hb dX1_word_24 rfl (lv_at hl 0 rfl) ?_
    refine va_lald hx hb hK hP 1 0 rfl rfl (wi_in hi) dX1_word_25 ?_
    exact W.lret (v := (w (Int32.toNatClampNeg (k_wordIndex ad)))) hx hb hr (fun t ht hW => ⟨(w (Int32.toNatClampNeg (k_wordIndex ad))), rfl, (by first | rfl | (simp only [k_at, c_2, b2i, decide_true, decide_false, Bool.not_true, Bool.not_false, Bool.and_true, Bool.and_false, Bool.true_and, Bool.false_and, Bool.or_true, Bool.or_false, Bool.true_or, Bool.false_or, reduceIte, or_true, true_or, or_false, false_or, and_true, true_and, and_false, false_and, not_true_eq_false, not_false_eq_true, Bool.false_eq_true, eq_self]; done) | (simp [k_at, c_2]; done)), ht⟩) (fun _ h => nomatch h) dX1_word_26
  · first | exact absurd c_2 hi | exact absurd hi c_2
set_option maxHeartbeats 4000000 in
set_option maxRecDepth 100000 in
theorem mtX1_allows (l : Launch) (dC : Nat → ClassId) (dI : Nat → Nat → Nat) (cL : ClassId) (cI : ClassId) (q0 : Nat) (qw : Nat) (qr : Nat) (qc : Nat) (qn : Nat) (w : Nat → Int64) (tb : Int64) (su : Bool) (mx : Bool) (cf : Nat → Int32) (nu : Nat → Int64) (ad : Int64) (ac : Int32) (md : Int32) (sz : Int32) (hi : k_isAccess ad ac md sz = true) (hj : k_isPhysical ad = true) : Met l yX1_allows wsX1_allows ({ frames := 3, cells := 0, slots := 0, locals := 81 }) (va_Pc [.ref q0, .long ad, .int ac, .int md, .int sz] (fun U => va_P (dC, dI) vwCl (wPW cL cI q0 qw qr qc qn w tb su mx cf nu) U.heap ∧ va_K (dC, dI) vwCl [(cL, .long), (cI, .int)] U)) (vp_Si (fun r => r = b2i (k_let cf nu ad ac md sz))) 0 0 (fun _ => False) := by
  refine Met.ofW (cc := cX1_allows) (maxL := 6) (ret := (some .boolean)) (by decide) rfl ?_
  intro p e s m args below meth c s₁ B hml hv
  obtain ⟨rfl, hP, hK⟩ := hv
  have hx := B.exec
  have hb := B.bytes
  have hr := B.returns
  have hts := atoms_spec (ws := wsX1_allows) B.pre
  have hown : s.vm.findClass RX1 = some m.cls := findClass_of_methodNamed B.named
  have hlocks := B.notSynchronized
  have hP : va_P (dC, dI) vwCl [(q0, .inr (1, [.ref qw, .ref qr, .long tb, .int (b2i su), .int (b2i mx)])), (qw, .inl (cL, 8192, .inr (.inl w))), (qr, .inr (0, [.ref qc, .ref qn])), (qc, .inl (cI, 8, .inl cf)), (qn, .inl (cL, 8, .inr (.inl nu)))] s.heap := hP
  have hl := lv_entry ([.ref q0, .long ad, .int ac, .int md, .int sz]) (n := 6) (Nat.le_of_ble_eq_true rfl)
  rw [lg_entry_eq]
  generalize (lg_sl ([.ref q0, .long ad, .int ac, .int md, .int sz]) ++ List.replicate (6 - (lg_sl ([.ref q0, .long ad, .int ac, .int md, .int sz])).length) Slot.unset).toArray = ls at hl ⊢
  have hl : lv_has ls 6 [(0, .ref q0), (1, .long ad), (3, .int ac), (4, .int md), (5, .int sz)] := hl
  refine lv_lload_n hx hb dX1_allows_0 rfl (lv_at hl 1 rfl) ?_
  refine lv_iload_n hx hb dX1_allows_1 rfl (lv_at hl 2 rfl) ?_
  refine lv_iload hx hb dX1_allows_2 (lv_at hl 3 rfl) ?_
  refine lv_iload hx hb dX1_allows_4 (lv_at hl 4 rfl) ?_
  refine vp_callSi (W.runS (As := [.long ad, .int ac, .int md, .int sz]) (rest := []) ⟨hx, hb, hml, hown, hts⟩ (mtX1_isAccess l ad ac md sz) (va_cwS 4 hts (gAll (mc1 (wa 250 (by decide +kernel) rfl) (mc1 (wa 251 (by decide +kernel) rfl) (mc1 (wa 15 (by decide +kernel) rfl) mc0))) (wa 252 (by decide +kernel) rfl) (by decide +kernel)) rfl rfl rfl (by decide +kernel) ⟨Nat.le_of_ble_eq_true rfl, Nat.le_of_ble_eq_true rfl⟩) preEq rfl rfl hl.1 rfl (lv_room (Nat.le_of_ble_eq_true rfl)) dX1_allows_6 ⟨Nat.le_of_ble_eq_true rfl, Nat.le_of_ble_eq_true rfl⟩) (fun r_1 er_1 => ?_)
  have er_1 : r_1 = (b2i (k_isAccess ad ac md sz)) := er_1
  subst er_1
  refine lv_if_eq (tgt := 19) hx hb dX1_allows_9 (by decide) (fun c_2 => ?_) (fun c_2 => ?_)
  · rw [b2i_z] at c_2
    first | exact absurd (c_2.symm.trans hi) (by decide) | exact absurd (c_2.symm.trans hj) (by decide)
  · rw [b2i_z] at c_2
    rw [Bool.not_eq_false] at c_2
    refine lv_lload_n hx hb dX1_allows_12 rfl (lv_at hl 1 rfl) ?_
    refine vp_callSi (W.runS (As := [.long ad]) (rest := []) ⟨hx, hb, hml, hown, hts⟩ (mtX1_isPhysical l ad) (va_cwS 1 hts (gAll (mc1 (wa 260 (by decide +kernel) rfl) (mc1 (wa 261 (by decide +kernel) rfl) (mc1 (wa 15 (by decide +kernel) rfl) mc0))) (wa 262 (by decide +kernel) rfl) (by decide +kernel)) rfl rfl rfl (by decide +kernel) ⟨Nat.le_of_ble_eq_true rfl, Nat.le_of_ble_eq_true rfl⟩) preEq rfl rfl hl.1 rfl (lv_room (Nat.le_of_ble_eq_true rfl)) dX1_allows_13 ⟨Nat.le_of_ble_eq_true rfl, Nat.le_of_ble_eq_true rfl⟩) (fun r_3 er_3 => ?_)
    have er_3 : r_3 = (b2i (k_isPhysical ad)) := er_3
    subst er_3
    refine lv_if_ne (tgt := 29) hx hb dX1_allows_16 (by decide) (fun c_4 => ?_) (fun c_4 => ?_)
    · rw [b2i_z] at c_4
      rw [Bool.not_eq_false] at c_4
      refine lv_aload_n hx hb dX1_allows_29 rfl (lv_at hl 0 rfl) ?_
      refine va_get (D := (dC, dI)) (ci := 1) (v := .ref qr) (C := RX1) (T := TX1) (N := 5) hx hb hts iwX1 hown hK hP 0 rfl rfl 1 (by decide) (hts (.fieldLink RX1 16 RX1 "regions" "LPageWalker$Regions;") (wa 47 (by decide +kernel) rfl)) (fun _ h9 => h9) rfl dX1_allows_30 ?_
      refine lv_lload_n hx hb dX1_allows_33 rfl (lv_at hl 1 rfl) ?_
      refine lv_iload_n hx hb dX1_allows_34 rfl (lv_at hl 2 rfl) ?_
      refine lv_iload hx hb dX1_allows_35 (lv_at hl 3 rfl) ?_
      refine lv_iload hx hb dX1_allows_37 (lv_at hl 4 rfl) ?_
      refine vp_callSi (W.runV (As := [.long ad, .int ac, .int md, .int sz]) (rest := []) ⟨hx, hb, hml, hown, hts⟩ (mtX0_letThrough l dC dI cL cI qr qc qn cf nu ad ac md sz ) (cwV 4 hts (gAll (mc1 (wa 287 (by decide +kernel) rfl) (mc1 (wa 288 (by decide +kernel) rfl) (mc1 (wa 289 (by decide +kernel) rfl) (mc1 (wa 16 (by decide +kernel) rfl) mc0)))) (wa 290 (by decide +kernel) rfl) (by decide +kernel)) rfl rfl rfl (by decide +kernel) ⟨Nat.le_of_ble_eq_true rfl, Nat.le_of_ble_eq_true rfl⟩) (rd_pre (ci := 0) (q0 := 0) hK (hP.sub (ws' := (wRG cL cI qr qc qn cf nu)) [2, 3, 4] rfl) rfl rfl) rfl rfl hl.1 rfl (lv_room (Nat.le_of_ble_eq_true rfl)) dX1_allows_39 ⟨Nat.le_of_ble_eq_true rfl, Nat.le_of_ble_eq_true rfl⟩) (fun r_5 er_5 => ?_)
      have er_5 : r_5 = (b2i (k_let cf nu ad ac md sz)) := er_5
      subst er_5
      exact W.zret (v := (b2i (k_let cf nu ad ac md sz))) hx hb hr (nar_b2i _) (fun t ht hW => ⟨(b2i (k_let cf nu ad ac md sz)), rfl, (by first | rfl | (simp only [c_2, c_4, b2i, decide_true, decide_false, Bool.not_true, Bool.not_false, Bool.and_true, Bool.and_false, Bool.true_and, Bool.false_and, Bool.or_true, Bool.or_false, Bool.true_or, Bool.false_or, reduceIte, or_true, true_or, or_false, false_or, and_true, true_and, and_false, false_and, not_true_eq_false, not_false_eq_true, Bool.false_eq_true, eq_self]; done) | (simp [c_2, c_4]; done)), ht⟩) (fun _ h => nomatch h) dX1_allows_42
    · rw [b2i_z] at c_4
      first | exact absurd (c_2.symm.trans hi) (by decide) | exact absurd (c_2.symm.trans hj) (by decide) | exact absurd (c_4.symm.trans hi) (by decide) | exact absurd (c_4.symm.trans hj) (by decide)
set_option maxHeartbeats 4000000 in
set_option maxRecDepth 100000 in
theorem mtX1_put (l : Launch) (dC : Nat → ClassId) (dI : Nat → Nat → Nat) (cL : ClassId) (cI : ClassId) (q0 : Nat) (qw : Nat) (qr : Nat) (qc : Nat) (qn : Nat) (w : Nat → Int64) (tb : Int64) (su : Bool) (mx : Bool) (cf : Nat → Int32) (nu : Nat → Int64) (hz : Nat) (ad : Int64) (v : Int64) (hi : ¬ k_wordIndex ad = -1) : Met l yX1_put wsX1_put ({ frames := 1, cells := 0, slots := 0, locals := 23 }) (va_Pc [.ref q0, .long ad, .long v] (fun U => U.heap.size = hz ∧ va_P (dC, dI) vwCl (wPW cL cI q0 qw qr qc qn w tb su mx cf nu) U.heap ∧ va_K (dC, dI) vwCl [(cL, .long), (cI, .int)] U ∧ va_D (fun _ => True) (wPW cL cI q0 qw qr qc qn w tb su mx cf nu))) (va_Qv (fun _ : Unit => True) (fun _ t => va_P (dC, dI) vwCl (wPW cL cI q0 qw qr qc qn (vp_updL w (Int32.toNatClampNeg (k_wordIndex ad)) v) tb su mx cf nu) t.heap ∧ va_K (dC, dI) vwCl [(cL, .long), (cI, .int)] t ∧ va_D (va_A (wPW cL cI q0 qw qr qc qn w tb su mx cf nu) hz) (wPW cL cI q0 qw qr qc qn (vp_updL w (Int32.toNatClampNeg (k_wordIndex ad)) v) tb su mx cf nu)) (va_A (wPW cL cI q0 qw qr qc qn w tb su mx cf nu) hz)) 0 0 (va_A (wPW cL cI q0 qw qr qc qn w tb su mx cf nu) hz) := by
  refine Met.ofW (cc := cX1_put) (maxL := 6) (ret := none) (by decide) rfl ?_
  intro p e s m args below meth c s₁ B hml hv
  obtain ⟨rfl, hsz, hP, hK, hD0⟩ := hv
  have hx := B.exec
  have hb := B.bytes
  have hr := B.returns
  have hts := atoms_spec (ws := wsX1_put) B.pre
  have hown : s.vm.findClass RX1 = some m.cls := findClass_of_methodNamed B.named
  have hlocks := B.notSynchronized
  subst hsz
  have hD := hD0.self (sz := s.heap.size)
  generalize hAe : va_A (wPW cL cI q0 qw qr qc qn w tb su mx cf nu) s.heap.size = A at hD ⊢
  have hA : ∀ q : Nat, s.heap.size ≤ q → A q := fun q h => by rw [← hAe]; exact Or.inr h
  have hS : va_S A s.heap s.heap [] := va_S.rf
  have hP : va_P (dC, dI) vwCl [(q0, .inr (1, [.ref qw, .ref qr, .long tb, .int (b2i su), .int (b2i mx)])), (qw, .inl (cL, 8192, .inr (.inl w))), (qr, .inr (0, [.ref qc, .ref qn])), (qc, .inl (cI, 8, .inl cf)), (qn, .inl (cL, 8, .inr (.inl nu)))] s.heap := hP
  have hD : va_D A [(q0, .inr (1, [.ref qw, .ref qr, .long tb, .int (b2i su), .int (b2i mx)])), (qw, .inl (cL, 8192, .inr (.inl w))), (qr, .inr (0, [.ref qc, .ref qn])), (qc, .inl (cI, 8, .inl cf)), (qn, .inl (cL, 8, .inr (.inl nu)))] := hD
  have hl := lv_entry ([.ref q0, .long ad, .long v]) (n := 6) (Nat.le_of_ble_eq_true rfl)
  rw [lg_entry_eq]
  generalize (lg_sl ([.ref q0, .long ad, .long v]) ++ List.replicate (6 - (lg_sl ([.ref q0, .long ad, .long v])).length) Slot.unset).toArray = ls at hl ⊢
  have hl : lv_has ls 6 [(0, .ref q0), (1, .long ad), (3, .long v)] := hl
  refine lv_lload_n hx hb dX1_put_0 rfl (lv_at hl 1 rfl) ?_
  refine vp_callSi (W.runS (As := [.long ad]) (rest := []) ⟨hx, hb, hml, hown, hts⟩ (mtX1_wordIndex l ad) (va_cwS 1 hts (gAll (mc1 (wa 104 (by decide +kernel) rfl) (mc1 (wa 105 (by decide +kernel) rfl) (mc1 (wa 15 (by decide +kernel) rfl) mc0))) (wa 106 (by decide +kernel) rfl) (by decide +kernel)) rfl rfl rfl (by decide +kernel) ⟨Nat.le_of_ble_eq_true rfl, Nat.le_of_ble_eq_true rfl⟩) preEq rfl rfl hl.1 rfl (lv_room (Nat.le_of_ble_eq_true rfl)) dX1_put_1 ⟨Nat.le_of_ble_eq_true rfl, Nat.le_of_ble_eq_true rfl⟩) (fun r_1 er_1 => ?_)
  have er_1 : r_1 = (k_wordIndex ad) := er_1
  subst er_1
  refine lv_istore (lv' := [(5, .int (k_wordIndex ad)), (0, .ref q0), (1, .long ad), (3, .long v)]) hx hb dX1_put_4 hl (by decide) rfl (fun ls hl => ?_)
  refine lv_iload hx hb dX1_put_6 (lv_at hl 0 rfl) ?_
  refine lv_iconst (v := (-1)) hx hb dX1_put_8 (by decide) ?_
  refine lv_icmp_ne (tgt := 22) hx hb dX1_put_9 (by decide) (fun c_2 => ?_) (fun c_2 => ?_)
  · refine lv_aload_n hx hb dX1_put_22 rfl (lv_at hl 1 rfl) ?_
    refine va_get (D := (dC, dI)) (ci := 1) (v := .ref qw) (C := RX1) (T := TX1) (N := 5) hx hb hts iwX1 hown hK hP 0 rfl rfl 0 (by decide) (hts (.fieldLink RX1 9 RX1 "words" "[J") (wa 46 (by decide +kernel) rfl)) (fun _ h9 => h9) rfl dX1_put_23 ?_
    refine lv_iload hx hb dX1_put_26 (lv_at hl 0 rfl) ?_
    refine lv_lload_n hx hb dX1_put_28 rfl (lv_at hl 3 rfl) ?_
    refine va_last hx hb hK hP hD hS 1 0 rfl rfl (wi_in hi) dX1_put_29 (fun H locs hP hD hS => ?_)
    have hP : va_P (dC, dI) vwCl [(q0, .inr (1, [.ref qw, .ref qr, .long tb, .int (b2i su), .int (b2i mx)])), (qw, .inl (cL, 8192, .inr (.inl (vp_updL w (Int32.toNatClampNeg (k_wordIndex ad)) v)))), (qr, .inr (0, [.ref qc, .ref qn])), (qc, .inl (cI, 8, .inl cf)), (qn, .inl (cL, 8, .inr (.inl nu)))] H := hP
    have hD : va_D A [(q0, .inr (1, [.ref qw, .ref qr, .long tb, .int (b2i su), .int (b2i mx)])), (qw, .inl (cL, 8192, .inr (.inl (vp_updL w (Int32.toNatClampNeg (k_wordIndex ad)) v)))), (qr, .inr (0, [.ref qc, .ref qn])), (qc, .inl (cI, 8, .inl cf)), (qn, .inl (cL, 8, .inr (.inl nu)))] := hD
    have hP9 : va_P (dC, dI) vwCl (wPW cL cI q0 qw qr qc qn (vp_updL w (Int32.toNatClampNeg (k_wordIndex ad)) v) tb su mx cf nu) H := hP
    have hD9 : va_D A (wPW cL cI q0 qw qr qc qn (vp_updL w (Int32.toNatClampNeg (k_wordIndex ad)) v) tb su mx cf nu) := hD
    exact W.vret hx hb hr (fun t ht hW => ⟨⟨(), rfl, trivial, (by rw [ht]; exact hP9), va_K.moved hW.alike hK, hD9⟩, hS.F ht⟩) hS.2.2 dX1_put_30
  · first | exact absurd c_2 hi | exact absurd hi c_2
set_option maxHeartbeats 4000000 in
set_option maxRecDepth 100000 in
theorem mtX1_setTable (l : Launch) (dC : Nat → ClassId) (dI : Nat → Nat → Nat) (cL : ClassId) (cI : ClassId) (q0 : Nat) (qw : Nat) (qr : Nat) (qc : Nat) (qn : Nat) (w : Nat → Int64) (tb : Int64) (su : Bool) (mx : Bool) (cf : Nat → Int32) (nu : Nat → Int64) (hz : Nat) (tv : Int64) (hi : k_sortOf tv = 0 ∨ k_sortOf tv = 8 ∨ k_sortOf tv = 9) : Met l yX1_setTable wsX1_setTable ({ frames := 1, cells := 0, slots := 0, locals := 21 }) (va_Pc [.ref q0, .long tv] (fun U => U.heap.size = hz ∧ va_P (dC, dI) vwCl (wPW cL cI q0 qw qr qc qn w tb su mx cf nu) U.heap ∧ va_K (dC, dI) vwCl [(cL, .long), (cI, .int)] U ∧ va_D (fun _ => True) (wPW cL cI q0 qw qr qc qn w tb su mx cf nu))) (va_Qv (fun _ : Unit => True) (fun _ t => va_P (dC, dI) vwCl (wPW cL cI q0 qw qr qc qn w tv su mx cf nu) t.heap ∧ va_K (dC, dI) vwCl [(cL, .long), (cI, .int)] t ∧ va_D (va_A (wPW cL cI q0 qw qr qc qn w tb su mx cf nu) hz) (wPW cL cI q0 qw qr qc qn w tv su mx cf nu)) (va_A (wPW cL cI q0 qw qr qc qn w tb su mx cf nu) hz)) 0 0 (va_A (wPW cL cI q0 qw qr qc qn w tb su mx cf nu) hz) := by
  refine Met.ofW (cc := cX1_setTable) (maxL := 4) (ret := none) (by decide) rfl ?_
  intro p e s m args below meth c s₁ B hml hv
  obtain ⟨rfl, hsz, hP, hK, hD0⟩ := hv
  have hx := B.exec
  have hb := B.bytes
  have hr := B.returns
  have hts := atoms_spec (ws := wsX1_setTable) B.pre
  have hown : s.vm.findClass RX1 = some m.cls := findClass_of_methodNamed B.named
  have hlocks := B.notSynchronized
  subst hsz
  have hD := hD0.self (sz := s.heap.size)
  generalize hAe : va_A (wPW cL cI q0 qw qr qc qn w tb su mx cf nu) s.heap.size = A at hD ⊢
  have hA : ∀ q : Nat, s.heap.size ≤ q → A q := fun q h => by rw [← hAe]; exact Or.inr h
  have hS : va_S A s.heap s.heap [] := va_S.rf
  have hP : va_P (dC, dI) vwCl [(q0, .inr (1, [.ref qw, .ref qr, .long tb, .int (b2i su), .int (b2i mx)])), (qw, .inl (cL, 8192, .inr (.inl w))), (qr, .inr (0, [.ref qc, .ref qn])), (qc, .inl (cI, 8, .inl cf)), (qn, .inl (cL, 8, .inr (.inl nu)))] s.heap := hP
  have hD : va_D A [(q0, .inr (1, [.ref qw, .ref qr, .long tb, .int (b2i su), .int (b2i mx)])), (qw, .inl (cL, 8192, .inr (.inl w))), (qr, .inr (0, [.ref qc, .ref qn])), (qc, .inl (cI, 8, .inl cf)), (qn, .inl (cL, 8, .inr (.inl nu)))] := hD
  have hl := lv_entry ([.ref q0, .long tv]) (n := 4) (Nat.le_of_ble_eq_true rfl)
  rw [lg_entry_eq]
  generalize (lg_sl ([.ref q0, .long tv]) ++ List.replicate (4 - (lg_sl ([.ref q0, .long tv])).length) Slot.unset).toArray = ls at hl ⊢
  have hl : lv_has ls 4 [(0, .ref q0), (1, .long tv)] := hl
  refine lv_lload_n hx hb dX1_setTable_0 rfl (lv_at hl 1 rfl) ?_
  refine vp_callSi (W.runS (As := [.long tv]) (rest := []) ⟨hx, hb, hml, hown, hts⟩ (mtX1_sortOf l tv) (va_cwS 1 hts (gAll (mc1 (wa 192 (by decide +kernel) rfl) (mc1 (wa 193 (by decide +kernel) rfl) (mc1 (wa 15 (by decide +kernel) rfl) mc0))) (wa 194 (by decide +kernel) rfl) (by decide +kernel)) rfl rfl rfl (by decide +kernel) ⟨Nat.le_of_ble_eq_true rfl, Nat.le_of_ble_eq_true rfl⟩) preEq rfl rfl hl.1 rfl (lv_room (Nat.le_of_ble_eq_true rfl)) dX1_setTable_1 ⟨Nat.le_of_ble_eq_true rfl, Nat.le_of_ble_eq_true rfl⟩) (fun r_1 er_1 => ?_)
  have er_1 : r_1 = (k_sortOf tv) := er_1
  subst er_1
  refine lv_istore_n (lv' := [(3, .int (k_sortOf tv)), (0, .ref q0), (1, .long tv)]) hx hb dX1_setTable_4 rfl hl (by decide) rfl (fun ls hl => ?_)
  refine lv_iload_n hx hb dX1_setTable_5 rfl (lv_at hl 0 rfl) ?_
  refine lv_if_eq (tgt := 31) hx hb dX1_setTable_6 (by decide) (fun c_2 => ?_) (fun c_2 => ?_)
  · refine lv_aload_n hx hb dX1_setTable_31 rfl (lv_at hl 1 rfl) ?_
    refine lv_lload_n hx hb dX1_setTable_32 rfl (lv_at hl 2 rfl) ?_
    refine va_put (D := (dC, dI)) (ci := 1) (v := .long tv) (ty := .long) (C := RX1) (T := TX1) (N := 5) hx hb hts iwX1 tyX1 tyX1_ok nmX1 hown hK hP hD hS 0 rfl rfl 2 (by decide) (hts (.fieldLink RX1 20 RX1 "table" "J") (wa 48 (by decide +kernel) rfl)) (fun _ h9 => h9) rfl (by decide +kernel) rfl rfl (Nat.le_of_ble_eq_true rfl) dX1_setTable_33 (fun H locs hP hD hS => ?_)
    have hP : va_P (dC, dI) vwCl [(q0, .inr (1, [.ref qw, .ref qr, .long tv, .int (b2i su), .int (b2i mx)])), (qw, .inl (cL, 8192, .inr (.inl w))), (qr, .inr (0, [.ref qc, .ref qn])), (qc, .inl (cI, 8, .inl cf)), (qn, .inl (cL, 8, .inr (.inl nu)))] H := hP
    have hD : va_D A [(q0, .inr (1, [.ref qw, .ref qr, .long tv, .int (b2i su), .int (b2i mx)])), (qw, .inl (cL, 8192, .inr (.inl w))), (qr, .inr (0, [.ref qc, .ref qn])), (qc, .inl (cI, 8, .inl cf)), (qn, .inl (cL, 8, .inr (.inl nu)))] := hD
    have hP9 : va_P (dC, dI) vwCl (wPW cL cI q0 qw qr qc qn w tv su mx cf nu) H := hP
    have hD9 : va_D A (wPW cL cI q0 qw qr qc qn w tv su mx cf nu) := hD
    exact W.vret hx hb hr (fun t ht hW => ⟨⟨(), rfl, trivial, (by rw [ht]; exact hP9), va_K.moved hW.alike hK, hD9⟩, hS.F ht⟩) hS.2.2 dX1_setTable_36
  · refine lv_iload_n hx hb dX1_setTable_9 rfl (lv_at hl 0 rfl) ?_
    refine lv_bipush (v := 8) hx hb dX1_setTable_10 (by decide) ?_
    refine lv_icmp_eq (tgt := 31) hx hb dX1_setTable_12 (by decide) (fun c_3 => ?_) (fun c_3 => ?_)
    · refine lv_aload_n hx hb dX1_setTable_31 rfl (lv_at hl 1 rfl) ?_
      refine lv_lload_n hx hb dX1_setTable_32 rfl (lv_at hl 2 rfl) ?_
      refine va_put (D := (dC, dI)) (ci := 1) (v := .long tv) (ty := .long) (C := RX1) (T := TX1) (N := 5) hx hb hts iwX1 tyX1 tyX1_ok nmX1 hown hK hP hD hS 0 rfl rfl 2 (by decide) (hts (.fieldLink RX1 20 RX1 "table" "J") (wa 48 (by decide +kernel) rfl)) (fun _ h9 => h9) rfl (by decide +kernel) rfl rfl (Nat.le_of_ble_eq_true rfl) dX1_setTable_33 (fun H locs hP hD hS => ?_)
      have hP : va_P (dC, dI) vwCl [(q0, .inr (1, [.ref qw, .ref qr, .long tv, .int (b2i su), .int (b2i mx)])), (qw, .inl (cL, 8192, .inr (.inl w))), (qr, .inr (0, [.ref qc, .ref qn])), (qc, .inl (cI, 8, .inl cf)), (qn, .inl (cL, 8, .inr (.inl nu)))] H := hP
      have hD : va_D A [(q0, .inr (1, [.ref qw, .ref qr, .long tv, .int (b2i su), .int (b2i mx)])), (qw, .inl (cL, 8192, .inr (.inl w))), (qr, .inr (0, [.ref qc, .ref qn])), (qc, .inl (cI, 8, .inl cf)), (qn, .inl (cL, 8, .inr (.inl nu)))] := hD
      have hP9 : va_P (dC, dI) vwCl (wPW cL cI q0 qw qr qc qn w tv su mx cf nu) H := hP
      have hD9 : va_D A (wPW cL cI q0 qw qr qc qn w tv su mx cf nu) := hD
      exact W.vret hx hb hr (fun t ht hW => ⟨⟨(), rfl, trivial, (by rw [ht]; exact hP9), va_K.moved hW.alike hK, hD9⟩, hS.F ht⟩) hS.2.2 dX1_setTable_36
    · refine lv_iload_n hx hb dX1_setTable_15 rfl (lv_at hl 0 rfl) ?_
      refine lv_bipush (v := 9) hx hb dX1_setTable_16 (by decide) ?_
      refine lv_icmp_eq (tgt := 31) hx hb dX1_setTable_18 (by decide) (fun c_4 => ?_) (fun c_4 => ?_)
      · refine lv_aload_n hx hb dX1_setTable_31 rfl (lv_at hl 1 rfl) ?_
        refine lv_lload_n hx hb dX1_setTable_32 rfl (lv_at hl 2 rfl) ?_
        refine va_put (D := (dC, dI)) (ci := 1) (v := .long tv) (ty := .long) (C := RX1) (T := TX1) (N := 5) hx hb hts iwX1 tyX1 tyX1_ok nmX1 hown hK hP hD hS 0 rfl rfl 2 (by decide) (hts (.fieldLink RX1 20 RX1 "table" "J") (wa 48 (by decide +kernel) rfl)) (fun _ h9 => h9) rfl (by decide +kernel) rfl rfl (Nat.le_of_ble_eq_true rfl) dX1_setTable_33 (fun H locs hP hD hS => ?_)
        have hP : va_P (dC, dI) vwCl [(q0, .inr (1, [.ref qw, .ref qr, .long tv, .int (b2i su), .int (b2i mx)])), (qw, .inl (cL, 8192, .inr (.inl w))), (qr, .inr (0, [.ref qc, .ref qn])), (qc, .inl (cI, 8, .inl cf)), (qn, .inl (cL, 8, .inr (.inl nu)))] H := hP
        have hD : va_D A [(q0, .inr (1, [.ref qw, .ref qr, .long tv, .int (b2i su), .int (b2i mx)])), (qw, .inl (cL, 8192, .inr (.inl w))), (qr, .inr (0, [.ref qc, .ref qn])), (qc, .inl (cI, 8, .inl cf)), (qn, .inl (cL, 8, .inr (.inl nu)))] := hD
        have hP9 : va_P (dC, dI) vwCl (wPW cL cI q0 qw qr qc qn w tv su mx cf nu) H := hP
        have hD9 : va_D A (wPW cL cI q0 qw qr qc qn w tv su mx cf nu) := hD
        exact W.vret hx hb hr (fun t ht hW => ⟨⟨(), rfl, trivial, (by rw [ht]; exact hP9), va_K.moved hW.alike hK, hD9⟩, hS.F ht⟩) hS.2.2 dX1_setTable_36
      · exact absurd hi (by simp [c_2, c_3, c_4])
set_option maxHeartbeats 4000000 in
set_option maxRecDepth 100000 in
theorem mtX1_rights (l : Launch) (dC : Nat → ClassId) (dI : Nat → Nat → Nat) (cL : ClassId) (cI : ClassId) (q0 : Nat) (qw : Nat) (qr : Nat) (qc : Nat) (qn : Nat) (w : Nat → Int64) (tb : Int64) (su : Bool) (mx : Bool) (cf : Nat → Int32) (nu : Nat → Int64) (hz : Nat) (s1 : Bool) (s2 : Bool)  : Met l yX1_rights wsX1_rights ({ frames := 0, cells := 0, slots := 0, locals := 0 }) (va_Pc [.ref q0, .int (b2i s1), .int (b2i s2)] (fun U => U.heap.size = hz ∧ va_P (dC, dI) vwCl (wPW cL cI q0 qw qr qc qn w tb su mx cf nu) U.heap ∧ va_K (dC, dI) vwCl [(cL, .long), (cI, .int)] U ∧ va_D (fun _ => True) (wPW cL cI q0 qw qr qc qn w tb su mx cf nu))) (va_Qv (fun _ : Unit => True) (fun _ t => va_P (dC, dI) vwCl (wPW cL cI q0 qw qr qc qn w tb s1 s2 cf nu) t.heap ∧ va_K (dC, dI) vwCl [(cL, .long), (cI, .int)] t ∧ va_D (va_A (wPW cL cI q0 qw qr qc qn w tb su mx cf nu) hz) (wPW cL cI q0 qw qr qc qn w tb s1 s2 cf nu)) (va_A (wPW cL cI q0 qw qr qc qn w tb su mx cf nu) hz)) 0 0 (va_A (wPW cL cI q0 qw qr qc qn w tb su mx cf nu) hz) := by
  refine Met.ofW (cc := cX1_rights) (maxL := 3) (ret := none) (by decide) rfl ?_
  intro p e s m args below meth c s₁ B hml hv
  obtain ⟨rfl, hsz, hP, hK, hD0⟩ := hv
  have hx := B.exec
  have hb := B.bytes
  have hr := B.returns
  have hts := atoms_spec (ws := wsX1_rights) B.pre
  have hown : s.vm.findClass RX1 = some m.cls := findClass_of_methodNamed B.named
  have hlocks := B.notSynchronized
  subst hsz
  have hD := hD0.self (sz := s.heap.size)
  generalize hAe : va_A (wPW cL cI q0 qw qr qc qn w tb su mx cf nu) s.heap.size = A at hD ⊢
  have hA : ∀ q : Nat, s.heap.size ≤ q → A q := fun q h => by rw [← hAe]; exact Or.inr h
  have hS : va_S A s.heap s.heap [] := va_S.rf
  have hP : va_P (dC, dI) vwCl [(q0, .inr (1, [.ref qw, .ref qr, .long tb, .int (b2i su), .int (b2i mx)])), (qw, .inl (cL, 8192, .inr (.inl w))), (qr, .inr (0, [.ref qc, .ref qn])), (qc, .inl (cI, 8, .inl cf)), (qn, .inl (cL, 8, .inr (.inl nu)))] s.heap := hP
  have hD : va_D A [(q0, .inr (1, [.ref qw, .ref qr, .long tb, .int (b2i su), .int (b2i mx)])), (qw, .inl (cL, 8192, .inr (.inl w))), (qr, .inr (0, [.ref qc, .ref qn])), (qc, .inl (cI, 8, .inl cf)), (qn, .inl (cL, 8, .inr (.inl nu)))] := hD
  have hl := lv_entry ([.ref q0, .int (b2i s1), .int (b2i s2)]) (n := 3) (Nat.le_of_ble_eq_true rfl)
  rw [lg_entry_eq]
  generalize (lg_sl ([.ref q0, .int (b2i s1), .int (b2i s2)]) ++ List.replicate (3 - (lg_sl ([.ref q0, .int (b2i s1), .int (b2i s2)])).length) Slot.unset).toArray = ls at hl ⊢
  have hl : lv_has ls 3 [(0, .ref q0), (1, .int (b2i s1)), (2, .int (b2i s2))] := hl
  refine lv_aload_n hx hb dX1_rights_0 rfl (lv_at hl 0 rfl) ?_
  refine lv_iload_n hx hb dX1_rights_1 rfl (lv_at hl 1 rfl) ?_
  refine va_put (D := (dC, dI)) (ci := 1) (v := .int (b2i s1)) (ty := .boolean) (C := RX1) (T := TX1) (N := 5) hx hb hts iwX1 tyX1 tyX1_ok nmX1 hown hK hP hD hS 0 rfl rfl 3 (by decide) (hts (.fieldLink RX1 24 RX1 "sum" "Z") (wa 49 (by decide +kernel) rfl)) (fun _ h9 => h9) rfl (by decide +kernel) (nar_b2i _) (fit_b2i _) (Nat.le_of_ble_eq_true rfl) dX1_rights_2 (fun H locs hP hD hS => ?_)
  have hP : va_P (dC, dI) vwCl [(q0, .inr (1, [.ref qw, .ref qr, .long tb, .int (b2i s1), .int (b2i mx)])), (qw, .inl (cL, 8192, .inr (.inl w))), (qr, .inr (0, [.ref qc, .ref qn])), (qc, .inl (cI, 8, .inl cf)), (qn, .inl (cL, 8, .inr (.inl nu)))] H := hP
  have hD : va_D A [(q0, .inr (1, [.ref qw, .ref qr, .long tb, .int (b2i s1), .int (b2i mx)])), (qw, .inl (cL, 8192, .inr (.inl w))), (qr, .inr (0, [.ref qc, .ref qn])), (qc, .inl (cI, 8, .inl cf)), (qn, .inl (cL, 8, .inr (.inl nu)))] := hD
  refine lv_aload_n hx hb dX1_rights_5 rfl (lv_at hl 0 rfl) ?_
  refine lv_iload_n hx hb dX1_rights_6 rfl (lv_at hl 2 rfl) ?_
  refine va_put (D := (dC, dI)) (ci := 1) (v := .int (b2i s2)) (ty := .boolean) (C := RX1) (T := TX1) (N := 5) hx hb hts iwX1 tyX1 tyX1_ok nmX1 hown hK hP hD hS 0 rfl rfl 4 (by decide) (hts (.fieldLink RX1 28 RX1 "mxr" "Z") (wa 50 (by decide +kernel) rfl)) (fun _ h9 => h9) rfl (by decide +kernel) (nar_b2i _) (fit_b2i _) (Nat.le_of_ble_eq_true rfl) dX1_rights_7 (fun H locs hP hD hS => ?_)
  have hP : va_P (dC, dI) vwCl [(q0, .inr (1, [.ref qw, .ref qr, .long tb, .int (b2i s1), .int (b2i s2)])), (qw, .inl (cL, 8192, .inr (.inl w))), (qr, .inr (0, [.ref qc, .ref qn])), (qc, .inl (cI, 8, .inl cf)), (qn, .inl (cL, 8, .inr (.inl nu)))] H := hP
  have hD : va_D A [(q0, .inr (1, [.ref qw, .ref qr, .long tb, .int (b2i s1), .int (b2i s2)])), (qw, .inl (cL, 8192, .inr (.inl w))), (qr, .inr (0, [.ref qc, .ref qn])), (qc, .inl (cI, 8, .inl cf)), (qn, .inl (cL, 8, .inr (.inl nu)))] := hD
  have hP9 : va_P (dC, dI) vwCl (wPW cL cI q0 qw qr qc qn w tb s1 s2 cf nu) H := hP
  have hD9 : va_D A (wPW cL cI q0 qw qr qc qn w tb s1 s2 cf nu) := hD
  exact W.vret hx hb hr (fun t ht hW => ⟨⟨(), rfl, trivial, (by rw [ht]; exact hP9), va_K.moved hW.alike hK, hD9⟩, hS.F ht⟩) hS.2.2 dX1_rights_10
set_option maxHeartbeats 4000000 in
set_option maxRecDepth 100000 in
theorem mtX1_setConfigs (l : Launch) (dC : Nat → ClassId) (dI : Nat → Nat → Nat) (cL : ClassId) (cI : ClassId) (q0 : Nat) (qw : Nat) (qr : Nat) (qc : Nat) (qn : Nat) (w : Nat → Int64) (tb : Int64) (su : Bool) (mx : Bool) (cf : Nat → Int32) (nu : Nat → Int64) (hz : Nat) (cv : Int64)  : Met l yX1_setConfigs wsX1_setConfigs ({ frames := 2, cells := 0, slots := 0, locals := 44 }) (va_Pc [.ref q0, .long cv] (fun U => U.heap.size = hz ∧ va_P (dC, dI) vwCl (wPW cL cI q0 qw qr qc qn w tb su mx cf nu) U.heap ∧ va_K (dC, dI) vwCl [(cL, .long), (cI, .int)] U ∧ va_D (fun _ => True) (wPW cL cI q0 qw qr qc qn w tb su mx cf nu))) (va_Qv (fun _ : Unit => True) (fun _ t => va_P (dC, dI) vwCl (wPW cL cI q0 qw qr qc qn w tb su mx (k_takeF cf cv 8) nu) t.heap ∧ va_K (dC, dI) vwCl [(cL, .long), (cI, .int)] t ∧ va_D (va_A (wPW cL cI q0 qw qr qc qn w tb su mx cf nu) hz) (wPW cL cI q0 qw qr qc qn w tb su mx (k_takeF cf cv 8) nu)) (va_A (wPW cL cI q0 qw qr qc qn w tb su mx cf nu) hz)) 0 0 (va_A (wPW cL cI q0 qw qr qc qn w tb su mx cf nu) hz) := by
  refine Met.ofW (cc := cX1_setConfigs) (maxL := 3) (ret := none) (by decide) rfl ?_
  intro p e s m args below meth c s₁ B hml hv
  obtain ⟨rfl, hsz, hP, hK, hD0⟩ := hv
  have hx := B.exec
  have hb := B.bytes
  have hr := B.returns
  have hts := atoms_spec (ws := wsX1_setConfigs) B.pre
  have hown : s.vm.findClass RX1 = some m.cls := findClass_of_methodNamed B.named
  have hlocks := B.notSynchronized
  subst hsz
  have hD := hD0.self (sz := s.heap.size)
  generalize hAe : va_A (wPW cL cI q0 qw qr qc qn w tb su mx cf nu) s.heap.size = A at hD ⊢
  have hA : ∀ q : Nat, s.heap.size ≤ q → A q := fun q h => by rw [← hAe]; exact Or.inr h
  have hS : va_S A s.heap s.heap [] := va_S.rf
  have hP : va_P (dC, dI) vwCl [(q0, .inr (1, [.ref qw, .ref qr, .long tb, .int (b2i su), .int (b2i mx)])), (qw, .inl (cL, 8192, .inr (.inl w))), (qr, .inr (0, [.ref qc, .ref qn])), (qc, .inl (cI, 8, .inl cf)), (qn, .inl (cL, 8, .inr (.inl nu)))] s.heap := hP
  have hD : va_D A [(q0, .inr (1, [.ref qw, .ref qr, .long tb, .int (b2i su), .int (b2i mx)])), (qw, .inl (cL, 8192, .inr (.inl w))), (qr, .inr (0, [.ref qc, .ref qn])), (qc, .inl (cI, 8, .inl cf)), (qn, .inl (cL, 8, .inr (.inl nu)))] := hD
  have hl := lv_entry ([.ref q0, .long cv]) (n := 3) (Nat.le_of_ble_eq_true rfl)
  rw [lg_entry_eq]
  generalize (lg_sl ([.ref q0, .long cv]) ++ List.replicate (3 - (lg_sl ([.ref q0, .long cv])).length) Slot.unset).toArray = ls at hl ⊢
  have hl : lv_has ls 3 [(0, .ref q0), (1, .long cv)] := hl
  refine lv_aload_n hx hb dX1_setConfigs_0 rfl (lv_at hl 0 rfl) ?_
  refine va_get (D := (dC, dI)) (ci := 1) (v := .ref qr) (C := RX1) (T := TX1) (N := 5) hx hb hts iwX1 hown hK hP 0 rfl rfl 1 (by decide) (hts (.fieldLink RX1 16 RX1 "regions" "LPageWalker$Regions;") (wa 47 (by decide +kernel) rfl)) (fun _ h9 => h9) rfl dX1_setConfigs_1 ?_
  refine lv_lload_n hx hb dX1_setConfigs_4 rfl (lv_at hl 1 rfl) ?_
  have hPc := hP.sub (ws' := (wRG cL cI qr qc qn cf nu)) [2, 3, 4] rfl
  have hDc := hD.sub (ws' := (wRG cL cI qr qc qn cf nu)) [2, 3, 4] (by decide) rfl
  have hFc := va_free (wc := (wRG cL cI qr qc qn cf nu)) hD hS hA [2, 3, 4] rfl
  refine va_callv (va_runV (As := [.long cv]) (rest := []) ⟨hx, hb, hml, hown, hts⟩ (mtX0_takeConfigs l dC dI cL cI qr qc qn cf nu s.heap.size cv ) (cwV 1 hts (gAll (mc1 (wa 82 (by decide +kernel) rfl) (mc1 (wa 83 (by decide +kernel) rfl) (mc1 (wa 84 (by decide +kernel) rfl) (mc1 (wa 16 (by decide +kernel) rfl) mc0)))) (wa 85 (by decide +kernel) rfl) (by decide +kernel)) rfl rfl rfl (by decide +kernel) ⟨Nat.le_of_ble_eq_true rfl, Nat.le_of_ble_eq_true rfl⟩) (mu_pre (ci := 0) (q0 := 0) hK hPc hDc rfl rfl) rfl rfl hl.1 rfl (lv_room (Nat.le_of_ble_eq_true rfl)) dX1_setConfigs_5 ⟨Nat.le_of_ble_eq_true rfl, Nat.le_of_ble_eq_true rfl⟩) hS (fun q _ h => hFc q h) hFc (fun u t H1 locs ht hvm hw hB hz1 hk1 hS => ?_)
  obtain ⟨hP1, hK1, hD1⟩ := hB
  rw [ht] at hP1
  obtain ⟨hP, hD⟩ := va_join (wr := [(q0, .inr (1, [.ref qw, .ref qr, .long tb, .int (b2i su), .int (b2i mx)])), (qw, .inl (cL, 8192, .inr (.inl w)))]) (w1 := (wRG cL cI qr qc qn (k_takeF cf cv 8) nu)) hP hD [2, 3, 4] [0, 1] rfl rfl (by decide) (by decide) hk1 hFc hP1 hD1
  generalize H1 = H at hP hS ⊢
  have hP : va_P (dC, dI) vwCl [(q0, .inr (1, [.ref qw, .ref qr, .long tb, .int (b2i su), .int (b2i mx)])), (qw, .inl (cL, 8192, .inr (.inl w))), (qr, .inr (0, [.ref qc, .ref qn])), (qc, .inl (cI, 8, .inl (k_takeF cf cv 8))), (qn, .inl (cL, 8, .inr (.inl nu)))] H := hP
  have hD : va_D A [(q0, .inr (1, [.ref qw, .ref qr, .long tb, .int (b2i su), .int (b2i mx)])), (qw, .inl (cL, 8192, .inr (.inl w))), (qr, .inr (0, [.ref qc, .ref qn])), (qc, .inl (cI, 8, .inl (k_takeF cf cv 8))), (qn, .inl (cL, 8, .inr (.inl nu)))] := hD
  have hP9 : va_P (dC, dI) vwCl (wPW cL cI q0 qw qr qc qn w tb su mx (k_takeF cf cv 8) nu) H := hP
  have hD9 : va_D A (wPW cL cI q0 qw qr qc qn w tb su mx (k_takeF cf cv 8) nu) := hD
  exact W.vret hx hb hr (fun t ht hW => ⟨⟨(), rfl, trivial, (by rw [ht]; exact hP9), va_K.moved hW.alike hK, hD9⟩, hS.F ht⟩) hS.2.2 dX1_setConfigs_8
set_option maxHeartbeats 4000000 in
set_option maxRecDepth 100000 in
theorem mtX1_setNumber (l : Launch) (dC : Nat → ClassId) (dI : Nat → Nat → Nat) (cL : ClassId) (cI : ClassId) (q0 : Nat) (qw : Nat) (qr : Nat) (qc : Nat) (qn : Nat) (w : Nat → Int64) (tb : Int64) (su : Bool) (mx : Bool) (cf : Nat → Int32) (nu : Nat → Int64) (hz : Nat) (i : Int32) (v : Int64) (hi0 : ¬ i < 0) (hi8 : i < 8) : Met l yX1_setNumber wsX1_setNumber ({ frames := 3, cells := 0, slots := 0, locals := 64 }) (va_Pc [.ref q0, .int i, .long v] (fun U => U.heap.size = hz ∧ va_P (dC, dI) vwCl (wPW cL cI q0 qw qr qc qn w tb su mx cf nu) U.heap ∧ va_K (dC, dI) vwCl [(cL, .long), (cI, .int)] U ∧ va_D (fun _ => True) (wPW cL cI q0 qw qr qc qn w tb su mx cf nu))) (va_Qv (fun _ : Unit => True) (fun _ t => va_P (dC, dI) vwCl (wPW cL cI q0 qw qr qc qn w tb su mx cf (k_takeNumber cf nu (Int32.toNatClampNeg i) v)) t.heap ∧ va_K (dC, dI) vwCl [(cL, .long), (cI, .int)] t ∧ va_D (va_A (wPW cL cI q0 qw qr qc qn w tb su mx cf nu) hz) (wPW cL cI q0 qw qr qc qn w tb su mx cf (k_takeNumber cf nu (Int32.toNatClampNeg i) v))) (va_A (wPW cL cI q0 qw qr qc qn w tb su mx cf nu) hz)) 0 0 (va_A (wPW cL cI q0 qw qr qc qn w tb su mx cf nu) hz) := by
  refine Met.ofW (cc := cX1_setNumber) (maxL := 4) (ret := none) (by decide) rfl ?_
  intro p e s m args below meth c s₁ B hml hv
  obtain ⟨rfl, hsz, hP, hK, hD0⟩ := hv
  have hx := B.exec
  have hb := B.bytes
  have hr := B.returns
  have hts := atoms_spec (ws := wsX1_setNumber) B.pre
  have hown : s.vm.findClass RX1 = some m.cls := findClass_of_methodNamed B.named
  have hlocks := B.notSynchronized
  subst hsz
  have hD := hD0.self (sz := s.heap.size)
  generalize hAe : va_A (wPW cL cI q0 qw qr qc qn w tb su mx cf nu) s.heap.size = A at hD ⊢
  have hA : ∀ q : Nat, s.heap.size ≤ q → A q := fun q h => by rw [← hAe]; exact Or.inr h
  have hS : va_S A s.heap s.heap [] := va_S.rf
  have hP : va_P (dC, dI) vwCl [(q0, .inr (1, [.ref qw, .ref qr, .long tb, .int (b2i su), .int (b2i mx)])), (qw, .inl (cL, 8192, .inr (.inl w))), (qr, .inr (0, [.ref qc, .ref qn])), (qc, .inl (cI, 8, .inl cf)), (qn, .inl (cL, 8, .inr (.inl nu)))] s.heap := hP
  have hD : va_D A [(q0, .inr (1, [.ref qw, .ref qr, .long tb, .int (b2i su), .int (b2i mx)])), (qw, .inl (cL, 8192, .inr (.inl w))), (qr, .inr (0, [.ref qc, .ref qn])), (qc, .inl (cI, 8, .inl cf)), (qn, .inl (cL, 8, .inr (.inl nu)))] := hD
  have hl := lv_entry ([.ref q0, .int i, .long v]) (n := 4) (Nat.le_of_ble_eq_true rfl)
  rw [lg_entry_eq]
  generalize (lg_sl ([.ref q0, .int i, .long v]) ++ List.replicate (4 - (lg_sl ([.ref q0, .int i, .long v])).length) Slot.unset).toArray = ls at hl ⊢
  have hl : lv_has ls 4 [(0, .ref q0), (1, .int i), (2, .long v)] := hl
  refine lv_aload_n hx hb dX1_setNumber_0 rfl (lv_at hl 0 rfl) ?_
  refine va_get (D := (dC, dI)) (ci := 1) (v := .ref qr) (C := RX1) (T := TX1) (N := 5) hx hb hts iwX1 hown hK hP 0 rfl rfl 1 (by decide) (hts (.fieldLink RX1 16 RX1 "regions" "LPageWalker$Regions;") (wa 47 (by decide +kernel) rfl)) (fun _ h9 => h9) rfl dX1_setNumber_1 ?_
  refine lv_iload_n hx hb dX1_setNumber_4 rfl (lv_at hl 1 rfl) ?_
  refine lv_lload_n hx hb dX1_setNumber_5 rfl (lv_at hl 2 rfl) ?_
  have hPc := hP.sub (ws' := (wRG cL cI qr qc qn cf nu)) [2, 3, 4] rfl
  have hDc := hD.sub (ws' := (wRG cL cI qr qc qn cf nu)) [2, 3, 4] (by decide) rfl
  have hFc := va_free (wc := (wRG cL cI qr qc qn cf nu)) hD hS hA [2, 3, 4] rfl
  refine va_callv (va_runV (As := [.int i, .long v]) (rest := []) ⟨hx, hb, hml, hown, hts⟩ (mtX0_takeNumber l dC dI cL cI qr qc qn cf nu s.heap.size i v (hi0) (hi8)) (cwV 2 hts (gAll (mc1 (wa 232 (by decide +kernel) rfl) (mc1 (wa 233 (by decide +kernel) rfl) (mc1 (wa 234 (by decide +kernel) rfl) (mc1 (wa 16 (by decide +kernel) rfl) mc0)))) (wa 235 (by decide +kernel) rfl) (by decide +kernel)) rfl rfl rfl (by decide +kernel) ⟨Nat.le_of_ble_eq_true rfl, Nat.le_of_ble_eq_true rfl⟩) (mu_pre (ci := 0) (q0 := 0) hK hPc hDc rfl rfl) rfl rfl hl.1 rfl (lv_room (Nat.le_of_ble_eq_true rfl)) dX1_setNumber_6 ⟨Nat.le_of_ble_eq_true rfl, Nat.le_of_ble_eq_true rfl⟩) hS (fun q _ h => hFc q h) hFc (fun u t H1 locs ht hvm hw hB hz1 hk1 hS => ?_)
  obtain ⟨hP1, hK1, hD1⟩ := hB
  rw [ht] at hP1
  obtain ⟨hP, hD⟩ := va_join (wr := [(q0, .inr (1, [.ref qw, .ref qr, .long tb, .int (b2i su), .int (b2i mx)])), (qw, .inl (cL, 8192, .inr (.inl w)))]) (w1 := (wRG cL cI qr qc qn cf (k_takeNumber cf nu (Int32.toNatClampNeg i) v))) hP hD [2, 3, 4] [0, 1] rfl rfl (by decide) (by decide) hk1 hFc hP1 hD1
  generalize H1 = H at hP hS ⊢
  have hP : va_P (dC, dI) vwCl [(q0, .inr (1, [.ref qw, .ref qr, .long tb, .int (b2i su), .int (b2i mx)])), (qw, .inl (cL, 8192, .inr (.inl w))), (qr, .inr (0, [.ref qc, .ref qn])), (qc, .inl (cI, 8, .inl cf)), (qn, .inl (cL, 8, .inr (.inl (k_takeNumber cf nu (Int32.toNatClampNeg i) v))))] H := hP
  have hD : va_D A [(q0, .inr (1, [.ref qw, .ref qr, .long tb, .int (b2i su), .int (b2i mx)])), (qw, .inl (cL, 8192, .inr (.inl w))), (qr, .inr (0, [.ref qc, .ref qn])), (qc, .inl (cI, 8, .inl cf)), (qn, .inl (cL, 8, .inr (.inl (k_takeNumber cf nu (Int32.toNatClampNeg i) v))))] := hD
  have hP9 : va_P (dC, dI) vwCl (wPW cL cI q0 qw qr qc qn w tb su mx cf (k_takeNumber cf nu (Int32.toNatClampNeg i) v)) H := hP
  have hD9 : va_D A (wPW cL cI q0 qw qr qc qn w tb su mx cf (k_takeNumber cf nu (Int32.toNatClampNeg i) v)) := hD
  exact W.vret hx hb hr (fun t ht hW => ⟨⟨(), rfl, trivial, (by rw [ht]; exact hP9), va_K.moved hW.alike hK, hD9⟩, hS.F ht⟩) hS.2.2 dX1_setNumber_9
set_option maxHeartbeats 4000000 in
set_option maxRecDepth 100000 in
theorem mtX1_mark (l : Launch) (dC : Nat → ClassId) (dI : Nat → Nat → Nat) (cL : ClassId) (cI : ClassId) (q0 : Nat) (qw : Nat) (qr : Nat) (qc : Nat) (qn : Nat) (w : Nat → Int64) (tb : Int64) (su : Bool) (mx : Bool) (cf : Nat → Int32) (nu : Nat → Int64) (hz : Nat) (pl : Int64) (en : Int64) (ac : Int32) (hi : ¬ k_wordIndex pl = -1) : Met l yX1_mark wsX1_mark ({ frames := 3, cells := 0, slots := 0, locals := 81 }) (va_Pc [.ref q0, .long pl, .long en, .int ac] (fun U => U.heap.size = hz ∧ va_P (dC, dI) vwCl (wPW cL cI q0 qw qr qc qn w tb su mx cf nu) U.heap ∧ va_K (dC, dI) vwCl [(cL, .long), (cI, .int)] U ∧ va_D (fun _ => True) (wPW cL cI q0 qw qr qc qn w tb su mx cf nu))) (va_Qi (fun r (_ : Unit) => r = b2i (k_mark w cf nu pl en ac).1) (fun _ t => va_P (dC, dI) vwCl (wPW cL cI q0 qw qr qc qn (k_mark w cf nu pl en ac).2 tb su mx cf nu) t.heap ∧ va_K (dC, dI) vwCl [(cL, .long), (cI, .int)] t ∧ va_D (va_A (wPW cL cI q0 qw qr qc qn w tb su mx cf nu) hz) (wPW cL cI q0 qw qr qc qn (k_mark w cf nu pl en ac).2 tb su mx cf nu)) (va_A (wPW cL cI q0 qw qr qc qn w tb su mx cf nu) hz)) 0 0 (va_A (wPW cL cI q0 qw qr qc qn w tb su mx cf nu) hz) := by
  refine Met.ofW (cc := cX1_mark) (maxL := 8) (ret := (some .boolean)) (by decide) rfl ?_
  intro p e s m args below meth c s₁ B hml hv
  obtain ⟨rfl, hsz, hP, hK, hD0⟩ := hv
  have hx := B.exec
  have hb := B.bytes
  have hr := B.returns
  have hts := atoms_spec (ws := wsX1_mark) B.pre
  have hown : s.vm.findClass RX1 = some m.cls := findClass_of_methodNamed B.named
  have hlocks := B.notSynchronized
  subst hsz
  have hD := hD0.self (sz := s.heap.size)
  generalize hAe : va_A (wPW cL cI q0 qw qr qc qn w tb su mx cf nu) s.heap.size = A at hD ⊢
  have hA : ∀ q : Nat, s.heap.size ≤ q → A q := fun q h => by rw [← hAe]; exact Or.inr h
  have hS : va_S A s.heap s.heap [] := va_S.rf
  have hP : va_P (dC, dI) vwCl [(q0, .inr (1, [.ref qw, .ref qr, .long tb, .int (b2i su), .int (b2i mx)])), (qw, .inl (cL, 8192, .inr (.inl w))), (qr, .inr (0, [.ref qc, .ref qn])), (qc, .inl (cI, 8, .inl cf)), (qn, .inl (cL, 8, .inr (.inl nu)))] s.heap := hP
  have hD : va_D A [(q0, .inr (1, [.ref qw, .ref qr, .long tb, .int (b2i su), .int (b2i mx)])), (qw, .inl (cL, 8192, .inr (.inl w))), (qr, .inr (0, [.ref qc, .ref qn])), (qc, .inl (cI, 8, .inl cf)), (qn, .inl (cL, 8, .inr (.inl nu)))] := hD
  have hl := lv_entry ([.ref q0, .long pl, .long en, .int ac]) (n := 8) (Nat.le_of_ble_eq_true rfl)
  rw [lg_entry_eq]
  generalize (lg_sl ([.ref q0, .long pl, .long en, .int ac]) ++ List.replicate (8 - (lg_sl ([.ref q0, .long pl, .long en, .int ac])).length) Slot.unset).toArray = ls at hl ⊢
  have hl : lv_has ls 8 [(0, .ref q0), (1, .long pl), (3, .long en), (5, .int ac)] := hl
  refine lv_iload hx hb dX1_mark_0 (lv_at hl 3 rfl) ?_
  refine lv_iconst (v := 2) hx hb dX1_mark_2 (by decide) ?_
  refine lv_icmp_ne (tgt := 12) hx hb dX1_mark_3 (by decide) (fun c_1 => ?_) (fun c_1 => ?_)
  · refine lv_ldc2 (v := 64) hx hb hown (hts (.constantLong RX1 176 64) (wa 336 (by decide +kernel) rfl)) dX1_mark_12 ?_
    refine lv_lstore (lv' := [(6, .long 64), (0, .ref q0), (1, .long pl), (3, .long en), (5, .int ac)]) hx hb dX1_mark_15 hl (by decide) rfl (fun ls hl => ?_)
    refine lv_lload_n hx hb dX1_mark_17 rfl (lv_at hl 3 rfl) ?_
    refine lv_lload hx hb dX1_mark_18 (lv_at hl 0 rfl) ?_
    refine lv_land hx hb dX1_mark_20 ?_
    refine lv_lload hx hb dX1_mark_21 (lv_at hl 0 rfl) ?_
    refine W.lcmp hx hb dX1_mark_23 ?_
    refine lv_if_ne (tgt := 29) hx hb dX1_mark_24 (by decide) (fun c_2 => ?_) (fun c_2 => ?_)
    · rw [lg_cmp_eq] at c_2
      refine lv_aload_n hx hb dX1_mark_29 rfl (lv_at hl 1 rfl) ?_
      refine va_get (D := (dC, dI)) (ci := 1) (v := .ref qr) (C := RX1) (T := TX1) (N := 5) hx hb hts iwX1 hown hK hP 0 rfl rfl 1 (by decide) (hts (.fieldLink RX1 16 RX1 "regions" "LPageWalker$Regions;") (wa 47 (by decide +kernel) rfl)) (fun _ h9 => h9) rfl dX1_mark_30 ?_
      refine lv_lload_n hx hb dX1_mark_33 rfl (lv_at hl 2 rfl) ?_
      refine lv_iconst (v := 2) hx hb dX1_mark_34 (by decide) ?_
      refine lv_iconst (v := 1) hx hb dX1_mark_35 (by decide) ?_
      refine lv_bipush (v := 8) hx hb dX1_mark_36 (by decide) ?_
      refine vp_callSi (W.runV (As := [.long pl, .int 2, .int 1, .int 8]) (rest := []) ⟨hx, hb, hml, hown, hts⟩ (mtX0_letThrough l dC dI cL cI qr qc qn cf nu pl 2 1 8 ) (cwV 4 hts (gAll (mc1 (wa 287 (by decide +kernel) rfl) (mc1 (wa 288 (by decide +kernel) rfl) (mc1 (wa 289 (by decide +kernel) rfl) (mc1 (wa 16 (by decide +kernel) rfl) mc0)))) (wa 290 (by decide +kernel) rfl) (by decide +kernel)) rfl rfl rfl (by decide +kernel) ⟨Nat.le_of_ble_eq_true rfl, Nat.le_of_ble_eq_true rfl⟩) (rd_pre (ci := 0) (q0 := 0) hK (hP.sub (ws' := (wRG cL cI qr qc qn cf nu)) [2, 3, 4] rfl) rfl rfl) rfl rfl hl.1 rfl (lv_room (Nat.le_of_ble_eq_true rfl)) dX1_mark_38 ⟨Nat.le_of_ble_eq_true rfl, Nat.le_of_ble_eq_true rfl⟩) (fun r_3 er_3 => ?_)
      have er_3 : r_3 = (b2i (k_let cf nu pl 2 1 8)) := er_3
      subst er_3
      refine lv_if_ne (tgt := 46) hx hb dX1_mark_41 (by decide) (fun c_4 => ?_) (fun c_4 => ?_)
      · rw [b2i_z] at c_4
        rw [Bool.not_eq_false] at c_4
        refine lv_aload_n hx hb dX1_mark_46 rfl (lv_at hl 1 rfl) ?_
        refine lv_lload_n hx hb dX1_mark_47 rfl (lv_at hl 2 rfl) ?_
        refine lv_lload_n hx hb dX1_mark_48 rfl (lv_at hl 3 rfl) ?_
        refine lv_lload hx hb dX1_mark_49 (lv_at hl 0 rfl) ?_
        refine lv_lor hx hb dX1_mark_51 ?_
        have hPc := hP.sub (ws' := (wPW cL cI q0 qw qr qc qn w tb su mx cf nu)) [0, 1, 2, 3, 4] rfl
        have hDc := hD.sub (ws' := (wPW cL cI q0 qw qr qc qn w tb su mx cf nu)) [0, 1, 2, 3, 4] (by decide) rfl
        have hFc := va_free (wc := (wPW cL cI q0 qw qr qc qn w tb su mx cf nu)) hD hS hA [0, 1, 2, 3, 4] rfl
        refine va_callv (va_runV (As := [.long pl, .long (en ||| 64)]) (rest := []) ⟨hx, hb, hml, hown, hts⟩ (mtX1_put l dC dI cL cI q0 qw qr qc qn w tb su mx cf nu s.heap.size pl (en ||| 64) (hi)) (cwV 2 hts (gAll (mc1 (wa 337 (by decide +kernel) rfl) (mc1 (wa 181 (by decide +kernel) rfl) (mc1 (wa 182 (by decide +kernel) rfl) (mc1 (wa 15 (by decide +kernel) rfl) mc0)))) (wa 183 (by decide +kernel) rfl) (by decide +kernel)) rfl rfl rfl (by decide +kernel) ⟨Nat.le_of_ble_eq_true rfl, Nat.le_of_ble_eq_true rfl⟩) (mu_pre (ci := 1) (q0 := 0) hK hPc hDc rfl rfl) rfl rfl hl.1 rfl (lv_room (Nat.le_of_ble_eq_true rfl)) dX1_mark_52 ⟨Nat.le_of_ble_eq_true rfl, Nat.le_of_ble_eq_true rfl⟩) hS (fun q _ h => hFc q h) hFc (fun u t H1 locs ht hvm hw hB hz1 hk1 hS => ?_)
        obtain ⟨hP1, hK1, hD1⟩ := hB
        rw [ht] at hP1
        obtain ⟨hP, hD⟩ := va_join (wr := []) (w1 := (wPW cL cI q0 qw qr qc qn (vp_updL w (Int32.toNatClampNeg (k_wordIndex pl)) (en ||| 64)) tb su mx cf nu)) hP hD [0, 1, 2, 3, 4] [] rfl rfl (by decide) (by decide) hk1 hFc hP1 hD1
        generalize H1 = H at hP hS ⊢
        have hP : va_P (dC, dI) vwCl [(q0, .inr (1, [.ref qw, .ref qr, .long tb, .int (b2i su), .int (b2i mx)])), (qw, .inl (cL, 8192, .inr (.inl (vp_updL w (Int32.toNatClampNeg (k_wordIndex pl)) (en ||| 64))))), (qr, .inr (0, [.ref qc, .ref qn])), (qc, .inl (cI, 8, .inl cf)), (qn, .inl (cL, 8, .inr (.inl nu)))] H := hP
        have hD : va_D A [(q0, .inr (1, [.ref qw, .ref qr, .long tb, .int (b2i su), .int (b2i mx)])), (qw, .inl (cL, 8192, .inr (.inl (vp_updL w (Int32.toNatClampNeg (k_wordIndex pl)) (en ||| 64))))), (qr, .inr (0, [.ref qc, .ref qn])), (qc, .inl (cI, 8, .inl cf)), (qn, .inl (cL, 8, .inr (.inl nu)))] := hD
        refine lv_iconst (v := 1) hx hb dX1_mark_55 (by decide) ?_
        have w9_0 : (k_mark w cf nu pl en ac).2 = (vp_updL w (Int32.toNatClampNeg (k_wordIndex pl)) (en ||| 64)) := (by first | rfl | (simp only [k_mark, k_marks, b2i, c_1, c_2, c_4, b2i, decide_true, decide_false, Bool.not_true, Bool.not_false, Bool.and_true, Bool.and_false, Bool.true_and, Bool.false_and, Bool.or_true, Bool.or_false, Bool.true_or, Bool.false_or, reduceIte, or_true, true_or, or_false, false_or, and_true, true_and, and_false, false_and, not_true_eq_false, not_false_eq_true, Bool.false_eq_true, eq_self]; done) | (simp [k_mark, k_marks, b2i, c_1, c_2, c_4]; done))
        have hP9 : va_P (dC, dI) vwCl (wPW cL cI q0 qw qr qc qn (k_mark w cf nu pl en ac).2 tb su mx cf nu) H := (by rw [w9_0]; exact hP)
        have hD9 : va_D A (wPW cL cI q0 qw qr qc qn (k_mark w cf nu pl en ac).2 tb su mx cf nu) := (by rw [w9_0]; exact hD)
        exact W.zret (v := 1) hx hb hr rfl (fun t ht hW => ⟨⟨1, (), rfl, (by first | rfl | (simp only [k_mark, k_marks, b2i, c_1, c_2, c_4, b2i, decide_true, decide_false, Bool.not_true, Bool.not_false, Bool.and_true, Bool.and_false, Bool.true_and, Bool.false_and, Bool.or_true, Bool.or_false, Bool.true_or, Bool.false_or, reduceIte, or_true, true_or, or_false, false_or, and_true, true_and, and_false, false_and, not_true_eq_false, not_false_eq_true, Bool.false_eq_true, eq_self]; done) | (simp [k_mark, k_marks, b2i, c_1, c_2, c_4]; done)), (by rw [ht]; exact hP9), va_K.moved hW.alike hK, hD9⟩, hS.F ht⟩) hS.2.2 dX1_mark_56
      · rw [b2i_z] at c_4
        refine lv_iconst (v := 0) hx hb dX1_mark_44 (by decide) ?_
        have w9_0 : (k_mark w cf nu pl en ac).2 = w := (by first | rfl | (simp only [k_mark, k_marks, b2i, c_1, c_2, c_4, b2i, decide_true, decide_false, Bool.not_true, Bool.not_false, Bool.and_true, Bool.and_false, Bool.true_and, Bool.false_and, Bool.or_true, Bool.or_false, Bool.true_or, Bool.false_or, reduceIte, or_true, true_or, or_false, false_or, and_true, true_and, and_false, false_and, not_true_eq_false, not_false_eq_true, Bool.false_eq_true, eq_self]; done) | (simp [k_mark, k_marks, b2i, c_1, c_2, c_4]; done))
        have hP9 : va_P (dC, dI) vwCl (wPW cL cI q0 qw qr qc qn (k_mark w cf nu pl en ac).2 tb su mx cf nu) s.heap := (by rw [w9_0]; exact hP)
        have hD9 : va_D A (wPW cL cI q0 qw qr qc qn (k_mark w cf nu pl en ac).2 tb su mx cf nu) := (by rw [w9_0]; exact hD)
        exact W.zret (v := 0) hx hb hr rfl (fun t ht hW => ⟨⟨0, (), rfl, (by first | rfl | (simp only [k_mark, k_marks, b2i, c_1, c_2, c_4, b2i, decide_true, decide_false, Bool.not_true, Bool.not_false, Bool.and_true, Bool.and_false, Bool.true_and, Bool.false_and, Bool.or_true, Bool.or_false, Bool.true_or, Bool.false_or, reduceIte, or_true, true_or, or_false, false_or, and_true, true_and, and_false, false_and, not_true_eq_false, not_false_eq_true, Bool.false_eq_true, eq_self]; done) | (simp [k_mark, k_marks, b2i, c_1, c_2, c_4]; done)), (by rw [ht]; exact hP9), va_K.moved hW.alike hK, hD9⟩, hS.F ht⟩) hS.2.2 dX1_mark_45
    · rw [lg_cmp_eq] at c_2
      refine lv_iconst (v := 1) hx hb dX1_mark_27 (by decide) ?_
      have w9_0 : (k_mark w cf nu pl en ac).2 = w := (by first | rfl | (simp only [k_mark, k_marks, b2i, c_1, c_2, b2i, decide_true, decide_false, Bool.not_true, Bool.not_false, Bool.and_true, Bool.and_false, Bool.true_and, Bool.false_and, Bool.or_true, Bool.or_false, Bool.true_or, Bool.false_or, reduceIte, or_true, true_or, or_false, false_or, and_true, true_and, and_false, false_and, not_true_eq_false, not_false_eq_true, Bool.false_eq_true, eq_self]; done) | (simp [k_mark, k_marks, b2i, c_1, c_2]; done))
      have hP9 : va_P (dC, dI) vwCl (wPW cL cI q0 qw qr qc qn (k_mark w cf nu pl en ac).2 tb su mx cf nu) s.heap := (by rw [w9_0]; exact hP)
      have hD9 : va_D A (wPW cL cI q0 qw qr qc qn (k_mark w cf nu pl en ac).2 tb su mx cf nu) := (by rw [w9_0]; exact hD)
      exact W.zret (v := 1) hx hb hr rfl (fun t ht hW => ⟨⟨1, (), rfl, (by first | rfl | (simp only [k_mark, k_marks, b2i, c_1, c_2, b2i, decide_true, decide_false, Bool.not_true, Bool.not_false, Bool.and_true, Bool.and_false, Bool.true_and, Bool.false_and, Bool.or_true, Bool.or_false, Bool.true_or, Bool.false_or, reduceIte, or_true, true_or, or_false, false_or, and_true, true_and, and_false, false_and, not_true_eq_false, not_false_eq_true, Bool.false_eq_true, eq_self]; done) | (simp [k_mark, k_marks, b2i, c_1, c_2]; done)), (by rw [ht]; exact hP9), va_K.moved hW.alike hK, hD9⟩, hS.F ht⟩) hS.2.2 dX1_mark_28
  · refine lv_ldc2 (v := 192) hx hb hown (hts (.constantLong RX1 174 192) (wa 335 (by decide +kernel) rfl)) dX1_mark_6 ?_
    refine lv_goto (tgt := 15) hx hb dX1_mark_9 (by decide) ?_
    refine lv_lstore (lv' := [(6, .long 192), (0, .ref q0), (1, .long pl), (3, .long en), (5, .int ac)]) hx hb dX1_mark_15 hl (by decide) rfl (fun ls hl => ?_)
    refine lv_lload_n hx hb dX1_mark_17 rfl (lv_at hl 3 rfl) ?_
    refine lv_lload hx hb dX1_mark_18 (lv_at hl 0 rfl) ?_
    refine lv_land hx hb dX1_mark_20 ?_
    refine lv_lload hx hb dX1_mark_21 (lv_at hl 0 rfl) ?_
    refine W.lcmp hx hb dX1_mark_23 ?_
    refine lv_if_ne (tgt := 29) hx hb dX1_mark_24 (by decide) (fun c_6 => ?_) (fun c_6 => ?_)
    · rw [lg_cmp_eq] at c_6
      refine lv_aload_n hx hb dX1_mark_29 rfl (lv_at hl 1 rfl) ?_
      refine va_get (D := (dC, dI)) (ci := 1) (v := .ref qr) (C := RX1) (T := TX1) (N := 5) hx hb hts iwX1 hown hK hP 0 rfl rfl 1 (by decide) (hts (.fieldLink RX1 16 RX1 "regions" "LPageWalker$Regions;") (wa 47 (by decide +kernel) rfl)) (fun _ h9 => h9) rfl dX1_mark_30 ?_
      refine lv_lload_n hx hb dX1_mark_33 rfl (lv_at hl 2 rfl) ?_
      refine lv_iconst (v := 2) hx hb dX1_mark_34 (by decide) ?_
      refine lv_iconst (v := 1) hx hb dX1_mark_35 (by decide) ?_
      refine lv_bipush (v := 8) hx hb dX1_mark_36 (by decide) ?_
      refine vp_callSi (W.runV (As := [.long pl, .int 2, .int 1, .int 8]) (rest := []) ⟨hx, hb, hml, hown, hts⟩ (mtX0_letThrough l dC dI cL cI qr qc qn cf nu pl 2 1 8 ) (cwV 4 hts (gAll (mc1 (wa 287 (by decide +kernel) rfl) (mc1 (wa 288 (by decide +kernel) rfl) (mc1 (wa 289 (by decide +kernel) rfl) (mc1 (wa 16 (by decide +kernel) rfl) mc0)))) (wa 290 (by decide +kernel) rfl) (by decide +kernel)) rfl rfl rfl (by decide +kernel) ⟨Nat.le_of_ble_eq_true rfl, Nat.le_of_ble_eq_true rfl⟩) (rd_pre (ci := 0) (q0 := 0) hK (hP.sub (ws' := (wRG cL cI qr qc qn cf nu)) [2, 3, 4] rfl) rfl rfl) rfl rfl hl.1 rfl (lv_room (Nat.le_of_ble_eq_true rfl)) dX1_mark_38 ⟨Nat.le_of_ble_eq_true rfl, Nat.le_of_ble_eq_true rfl⟩) (fun r_7 er_7 => ?_)
      have er_7 : r_7 = (b2i (k_let cf nu pl 2 1 8)) := er_7
      subst er_7
      refine lv_if_ne (tgt := 46) hx hb dX1_mark_41 (by decide) (fun c_8 => ?_) (fun c_8 => ?_)
      · rw [b2i_z] at c_8
        rw [Bool.not_eq_false] at c_8
        refine lv_aload_n hx hb dX1_mark_46 rfl (lv_at hl 1 rfl) ?_
        refine lv_lload_n hx hb dX1_mark_47 rfl (lv_at hl 2 rfl) ?_
        refine lv_lload_n hx hb dX1_mark_48 rfl (lv_at hl 3 rfl) ?_
        refine lv_lload hx hb dX1_mark_49 (lv_at hl 0 rfl) ?_
        refine lv_lor hx hb dX1_mark_51 ?_
        have hPc := hP.sub (ws' := (wPW cL cI q0 qw qr qc qn w tb su mx cf nu)) [0, 1, 2, 3, 4] rfl
        have hDc := hD.sub (ws' := (wPW cL cI q0 qw qr qc qn w tb su mx cf nu)) [0, 1, 2, 3, 4] (by decide) rfl
        have hFc := va_free (wc := (wPW cL cI q0 qw qr qc qn w tb su mx cf nu)) hD hS hA [0, 1, 2, 3, 4] rfl
        refine va_callv (va_runV (As := [.long pl, .long (en ||| 192)]) (rest := []) ⟨hx, hb, hml, hown, hts⟩ (mtX1_put l dC dI cL cI q0 qw qr qc qn w tb su mx cf nu s.heap.size pl (en ||| 192) (hi)) (cwV 2 hts (gAll (mc1 (wa 337 (by decide +kernel) rfl) (mc1 (wa 181 (by decide +kernel) rfl) (mc1 (wa 182 (by decide +kernel) rfl) (mc1 (wa 15 (by decide +kernel) rfl) mc0)))) (wa 183 (by decide +kernel) rfl) (by decide +kernel)) rfl rfl rfl (by decide +kernel) ⟨Nat.le_of_ble_eq_true rfl, Nat.le_of_ble_eq_true rfl⟩) (mu_pre (ci := 1) (q0 := 0) hK hPc hDc rfl rfl) rfl rfl hl.1 rfl (lv_room (Nat.le_of_ble_eq_true rfl)) dX1_mark_52 ⟨Nat.le_of_ble_eq_true rfl, Nat.le_of_ble_eq_true rfl⟩) hS (fun q _ h => hFc q h) hFc (fun u t H1 locs ht hvm hw hB hz1 hk1 hS => ?_)
        obtain ⟨hP1, hK1, hD1⟩ := hB
        rw [ht] at hP1
        obtain ⟨hP, hD⟩ := va_join (wr := []) (w1 := (wPW cL cI q0 qw qr qc qn (vp_updL w (Int32.toNatClampNeg (k_wordIndex pl)) (en ||| 192)) tb su mx cf nu)) hP hD [0, 1, 2, 3, 4] [] rfl rfl (by decide) (by decide) hk1 hFc hP1 hD1
        generalize H1 = H at hP hS ⊢
        have hP : va_P (dC, dI) vwCl [(q0, .inr (1, [.ref qw, .ref qr, .long tb, .int (b2i su), .int (b2i mx)])), (qw, .inl (cL, 8192, .inr (.inl (vp_updL w (Int32.toNatClampNeg (k_wordIndex pl)) (en ||| 192))))), (qr, .inr (0, [.ref qc, .ref qn])), (qc, .inl (cI, 8, .inl cf)), (qn, .inl (cL, 8, .inr (.inl nu)))] H := hP
        have hD : va_D A [(q0, .inr (1, [.ref qw, .ref qr, .long tb, .int (b2i su), .int (b2i mx)])), (qw, .inl (cL, 8192, .inr (.inl (vp_updL w (Int32.toNatClampNeg (k_wordIndex pl)) (en ||| 192))))), (qr, .inr (0, [.ref qc, .ref qn])), (qc, .inl (cI, 8, .inl cf)), (qn, .inl (cL, 8, .inr (.inl nu)))] := hD
        refine lv_iconst (v := 1) hx hb dX1_mark_55 (by decide) ?_
        have w9_0 : (k_mark w cf nu pl en ac).2 = (vp_updL w (Int32.toNatClampNeg (k_wordIndex pl)) (en ||| 192)) := (by first | rfl | (simp only [k_mark, k_marks, b2i, c_1, c_6, c_8, b2i, decide_true, decide_false, Bool.not_true, Bool.not_false, Bool.and_true, Bool.and_false, Bool.true_and, Bool.false_and, Bool.or_true, Bool.or_false, Bool.true_or, Bool.false_or, reduceIte, or_true, true_or, or_false, false_or, and_true, true_and, and_false, false_and, not_true_eq_false, not_false_eq_true, Bool.false_eq_true, eq_self]; done) | (simp [k_mark, k_marks, b2i, c_1, c_6, c_8]; done))
        have hP9 : va_P (dC, dI) vwCl (wPW cL cI q0 qw qr qc qn (k_mark w cf nu pl en ac).2 tb su mx cf nu) H := (by rw [w9_0]; exact hP)
        have hD9 : va_D A (wPW cL cI q0 qw qr qc qn (k_mark w cf nu pl en ac).2 tb su mx cf nu) := (by rw [w9_0]; exact hD)
        exact W.zret (v := 1) hx hb hr rfl (fun t ht hW => ⟨⟨1, (), rfl, (by first | rfl | (simp only [k_mark, k_marks, b2i, c_1, c_6, c_8, b2i, decide_true, decide_false, Bool.not_true, Bool.not_false, Bool.and_true, Bool.and_false, Bool.true_and, Bool.false_and, Bool.or_true, Bool.or_false, Bool.true_or, Bool.false_or, reduceIte, or_true, true_or, or_false, false_or, and_true, true_and, and_false, false_and, not_true_eq_false, not_false_eq_true, Bool.false_eq_true, eq_self]; done) | (simp [k_mark, k_marks, b2i, c_1, c_6, c_8]; done)), (by rw [ht]; exact hP9), va_K.moved hW.alike hK, hD9⟩, hS.F ht⟩) hS.2.2 dX1_mark_56
      · rw [b2i_z] at c_8
        refine lv_iconst (v := 0) hx hb dX1_mark_44 (by decide) ?_
        have w9_0 : (k_mark w cf nu pl en ac).2 = w := (by first | rfl | (simp only [k_mark, k_marks, b2i, c_1, c_6, c_8, b2i, decide_true, decide_false, Bool.not_true, Bool.not_false, Bool.and_true, Bool.and_false, Bool.true_and, Bool.false_and, Bool.or_true, Bool.or_false, Bool.true_or, Bool.false_or, reduceIte, or_true, true_or, or_false, false_or, and_true, true_and, and_false, false_and, not_true_eq_false, not_false_eq_true, Bool.false_eq_true, eq_self]; done) | (simp [k_mark, k_marks, b2i, c_1, c_6, c_8]; done))
        have hP9 : va_P (dC, dI) vwCl (wPW cL cI q0 qw qr qc qn (k_mark w cf nu pl en ac).2 tb su mx cf nu) s.heap := (by rw [w9_0]; exact hP)
        have hD9 : va_D A (wPW cL cI q0 qw qr qc qn (k_mark w cf nu pl en ac).2 tb su mx cf nu) := (by rw [w9_0]; exact hD)
        exact W.zret (v := 0) hx hb hr rfl (fun t ht hW => ⟨⟨0, (), rfl, (by first | rfl | (simp only [k_mark, k_marks, b2i, c_1, c_6, c_8, b2i, decide_true, decide_false, Bool.not_true, Bool.not_false, Bool.and_true, Bool.and_false, Bool.true_and, Bool.false_and, Bool.or_true, Bool.or_false, Bool.true_or, Bool.false_or, reduceIte, or_true, true_or, or_false, false_or, and_true, true_and, and_false, false_and, not_true_eq_false, not_false_eq_true, Bool.false_eq_true, eq_self]; done) | (simp [k_mark, k_marks, b2i, c_1, c_6, c_8]; done)), (by rw [ht]; exact hP9), va_K.moved hW.alike hK, hD9⟩, hS.F ht⟩) hS.2.2 dX1_mark_45
    · rw [lg_cmp_eq] at c_6
      refine lv_iconst (v := 1) hx hb dX1_mark_27 (by decide) ?_
      have w9_0 : (k_mark w cf nu pl en ac).2 = w := (by first | rfl | (simp only [k_mark, k_marks, b2i, c_1, c_6, b2i, decide_true, decide_false, Bool.not_true, Bool.not_false, Bool.and_true, Bool.and_false, Bool.true_and, Bool.false_and, Bool.or_true, Bool.or_false, Bool.true_or, Bool.false_or, reduceIte, or_true, true_or, or_false, false_or, and_true, true_and, and_false, false_and, not_true_eq_false, not_false_eq_true, Bool.false_eq_true, eq_self]; done) | (simp [k_mark, k_marks, b2i, c_1, c_6]; done))
      have hP9 : va_P (dC, dI) vwCl (wPW cL cI q0 qw qr qc qn (k_mark w cf nu pl en ac).2 tb su mx cf nu) s.heap := (by rw [w9_0]; exact hP)
      have hD9 : va_D A (wPW cL cI q0 qw qr qc qn (k_mark w cf nu pl en ac).2 tb su mx cf nu) := (by rw [w9_0]; exact hD)
      exact W.zret (v := 1) hx hb hr rfl (fun t ht hW => ⟨⟨1, (), rfl, (by first | rfl | (simp only [k_mark, k_marks, b2i, c_1, c_6, b2i, decide_true, decide_false, Bool.not_true, Bool.not_false, Bool.and_true, Bool.and_false, Bool.true_and, Bool.false_and, Bool.or_true, Bool.or_false, Bool.true_or, Bool.false_or, reduceIte, or_true, true_or, or_false, false_or, and_true, true_and, and_false, false_and, not_true_eq_false, not_false_eq_true, Bool.false_eq_true, eq_self]; done) | (simp [k_mark, k_marks, b2i, c_1, c_6]; done)), (by rw [ht]; exact hP9), va_K.moved hW.alike hK, hD9⟩, hS.F ht⟩) hS.2.2 dX1_mark_28
