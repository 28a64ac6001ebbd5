set_option maxHeartbeats 4000000 in
set_option maxRecDepth 100000 in
theorem mtX0_packedConfigs (l : Launch) (dC : Nat → ClassId) (dI : Nat → Nat → Nat) (cL : ClassId) (cI : ClassId) (qr : Nat) (qc : Nat) (qn : Nat) (cf : Nat → Int32) (nu : Nat → Int64)   : Met l yX0_packedConfigs wsX0_packedConfigs ({ frames := 0, cells := 0, slots := 0, locals := 0 }) (va_Pc [.ref qr] (fun U => va_P (dC, dI) vwCl (wRG cL cI qr qc qn cf nu) U.heap ∧ va_K (dC, dI) vwCl [(cL, .long), (cI, .int)] U)) (vp_Sl (fun r => r = k_packF cf 8)) 0 0 (fun _ => False) := by
  refine Met.ofW (cc := cX0_packedConfigs) (maxL := 4) (ret := (some .long)) (by decide) rfl ?_
  intro p e s m args below meth c s₁ B hml hv
  obtain ⟨rfl, hP, hK⟩ := hv
  have hx := B.exec
  have hb := B.bytes
  have hr := B.returns
  have hts := atoms_spec (ws := wsX0_packedConfigs) B.pre
  have hown : s.vm.findClass RX0 = some m.cls := findClass_of_methodNamed B.named
  have hlocks := B.notSynchronized
  have hP : va_P (dC, dI) vwCl [(qr, .inr (0, [.ref qc, .ref qn])), (qc, .inl (cI, 8, .inl cf)), (qn, .inl (cL, 8, .inr (.inl nu)))] s.heap := hP
  have hl := lv_entry ([.ref qr]) (n := 4) (Nat.le_of_ble_eq_true rfl)
  rw [lg_entry_eq]
  generalize (lg_sl ([.ref qr]) ++ List.replicate (4 - (lg_sl ([.ref qr])).length) Slot.unset).toArray = ls at hl ⊢
  have hl : lv_has ls 4 [(0, .ref qr)] := hl
  have loop : ∀ (n k : Nat) (ls : Array Slot), k ≤ 8 → 9 ≤ k + n → lv_has ls 4 [(0, .ref qr), (1, .long (k_packF cf k)), (3, .int (nI k))] → W p l e (headSpec wsX0_packedConfigs ({ frames := 0, cells := 0, slots := 0, locals := 0 })).room s m (([.ref qr] : List Value).toArray) below meth c s.heap [] 0 0 (MQ below (vp_Sl (fun r => r = k_packF cf 8)) (([.ref qr] : List Value).toArray) s 0 0 (fun _ => False)) (F0 m 4 ls []) := by
    intro n
    induction n with
    | zero =>
      intro k ls h1 h2
      exact absurd h2 (by omega)
    | succ n ih =>
      intro k ls hk hn hl
      refine lv_iload_n hx hb dX0_packedConfigs_4 rfl (lv_at hl 2 rfl) ?_
      refine lv_bipush (v := 8) hx hb dX0_packedConfigs_5 (by decide) ?_
      refine lv_icmp_ge (tgt := 31) hx hb dX0_packedConfigs_7 (by decide) (fun c_1 => ?_) (fun c_1 => ?_)
      · have hk8 : k = 8 := k8_eq hk c_1
        refine lv_lload_n hx hb dX0_packedConfigs_31 rfl (lv_at hl 1 rfl) ?_
        exact W.lret (v := (k_packF cf k)) hx hb hr (fun t ht hW => ⟨(k_packF cf k), rfl, (by first | rfl | (simp only [c_1, hk8, b2i, decide_true, decide_false, Bool.not_true, Bool.not_false, Bool.and_true, Bool.and_false, Bool.true_and, Bool.false_and, Bool.or_true, Bool.or_false, Bool.true_or, Bool.false_or, reduceIte, or_true, true_or, or_false, false_or, and_true, true_and, and_false, false_and, not_true_eq_false, not_false_eq_true, Bool.false_eq_true, eq_self]; done) | (simp [c_1, hk8]; done)), ht⟩) (fun _ h => nomatch h) dX0_packedConfigs_32
      · have hk8 : k < 8 := k8_lt hk c_1
        refine lv_lload_n hx hb dX0_packedConfigs_10 rfl (lv_at hl 1 rfl) ?_
        refine lv_aload_n hx hb dX0_packedConfigs_11 rfl (lv_at hl 0 rfl) ?_
        refine va_get (D := (dC, dI)) (ci := 0) (v := .ref qc) (C := RX0) (T := TX0) (N := 2) hx hb hts iwX0 hown hK hP 0 rfl rfl 0 (by decide) (hts (.fieldLink RX0 11 RX0 "configs" "[I") (wa 37 (by decide +kernel) rfl)) (fun _ h9 => h9) rfl dX0_packedConfigs_12 ?_
        refine lv_iload_n hx hb dX0_packedConfigs_15 rfl (lv_at hl 2 rfl) ?_
        refine va_iald hx hb hK hP 1 1 rfl rfl (vp_in_nI hk8 (by omega)) dX0_packedConfigs_16 ?_
        rw [nI_clamp (show k < 2 ^ 31 by omega)]
        refine lv_i2l (v := Int32.toInt64 (cf k)) hx hb dX0_packedConfigs_17 rfl ?_
        refine lv_bipush (v := 8) hx hb dX0_packedConfigs_18 (by decide) ?_
        refine lv_iload_n hx hb dX0_packedConfigs_20 rfl (lv_at hl 2 rfl) ?_
        refine lv_imul hx hb dX0_packedConfigs_21 ?_
        refine lv_lshl (v := (k_shl (Int32.toInt64 (cf k)) (8 * (nI k)))) hx hb dX0_packedConfigs_22 rfl ?_
        refine lv_lor hx hb dX0_packedConfigs_23 ?_
        refine lv_lstore_n (lv' := [(1, .long ((k_packF cf k) ||| (k_shl (Int32.toInt64 (cf k)) (8 * (nI k))))), (0, .ref qr), (3, .int (nI k))]) hx hb dX0_packedConfigs_24 rfl hl (by decide) rfl (fun ls hl => ?_)
        refine lv_iinc (v := ((nI k) + 1)) (lv' := [(3, .int ((nI k) + 1)), (1, .long ((k_packF cf k) ||| (k_shl (Int32.toInt64 (cf k)) (8 * (nI k))))), (0, .ref qr)]) hx hb dX0_packedConfigs_25 hl (k := 2) rfl rfl (by decide) rfl (fun ls hl => ?_)
        refine lv_goto (tgt := 4) hx hb dX0_packedConfigs_28 (by decide) ?_
        rw [← nI_succ] at hl
        exact ih (k + 1) ls (by omega) (by omega) (lv_sub hl [2, 1, 0] rfl)
  refine lv_lconst (v := 0) hx hb dX0_packedConfigs_0 (by decide) ?_
  refine lv_lstore_n (lv' := [(1, .long 0), (0, .ref qr)]) hx hb dX0_packedConfigs_1 rfl hl (by decide) rfl (fun ls hl => ?_)
  refine lv_iconst (v := 0) hx hb dX0_packedConfigs_2 (by decide) ?_
  refine lv_istore_n (lv' := [(3, .int 0), (1, .long 0), (0, .ref qr)]) hx hb dX0_packedConfigs_3 rfl hl (by decide) rfl (fun ls hl => ?_)
  exact loop 9 0 ls (by omega) (by omega) (lv_sub hl [2, 1, 0] rfl)
set_option maxHeartbeats 4000000 in
set_option maxRecDepth 100000 in
theorem mtX0_letThrough (l : Launch) (dC : Nat → ClassId) (dI : Nat → Nat → Nat) (cL : ClassId) (cI : ClassId) (qr : Nat) (qc : Nat) (qn : Nat) (cf : Nat → Int32) (nu : Nat → Int64) (fi : Int64) (ac : Int32) (md : Int32) (sz : Int32)  : Met l yX0_letThrough wsX0_letThrough ({ frames := 2, cells := 0, slots := 0, locals := 44 }) (va_Pc [.ref qr, .long fi, .int ac, .int md, .int sz] (fun U => va_P (dC, dI) vwCl (wRG cL cI qr qc qn cf nu) U.heap ∧ va_K (dC, dI) vwCl [(cL, .long), (cI, .int)] U)) (vp_Si (fun r => r = b2i (k_let cf nu fi ac md sz))) 0 0 (fun _ => False) := by
  refine Met.ofW (cc := cX0_letThrough) (maxL := 18) (ret := (some .boolean)) (by decide) rfl ?_
  intro p e s m args below meth c s₁ B hml hv
  obtain ⟨rfl, hP, hK⟩ := hv
  have hx := B.exec
  have hb := B.bytes
  have hr := B.returns
  have hts := atoms_spec (ws := wsX0_letThrough) B.pre
  have hown : s.vm.findClass RX0 = some m.cls := findClass_of_methodNamed B.named
  have hlocks := B.notSynchronized
  have hP : va_P (dC, dI) vwCl [(qr, .inr (0, [.ref qc, .ref qn])), (qc, .inl (cI, 8, .inl cf)), (qn, .inl (cL, 8, .inr (.inl nu)))] s.heap := hP
  have hl := lv_entry ([.ref qr, .long fi, .int ac, .int md, .int sz]) (n := 18) (Nat.le_of_ble_eq_true rfl)
  rw [lg_entry_eq]
  generalize (lg_sl ([.ref qr, .long fi, .int ac, .int md, .int sz]) ++ List.replicate (18 - (lg_sl ([.ref qr, .long fi, .int ac, .int md, .int sz])).length) Slot.unset).toArray = ls at hl ⊢
  have hl : lv_has ls 18 [(0, .ref qr), (1, .long fi), (3, .int ac), (4, .int md), (5, .int sz)] := hl
  have loop : ∀ (n k : Nat) (bf : Int64) (ls : Array Slot), k ≤ 8 → 9 ≤ k + n → k_letF cf nu fi (fi + Int32.toInt64 sz) ac md (8 - k) k bf = k_let cf nu fi ac md sz → lv_has ls 18 [(0, .ref qr), (1, .long fi), (3, .int ac), (4, .int md), (6, .long (fi + Int32.toInt64 sz)), (8, .long bf), (10, .int (nI k))] → W p l e (headSpec wsX0_letThrough ({ frames := 2, cells := 0, slots := 0, locals := 44 })).room s m (([.ref qr, .long fi, .int ac, .int md, .int sz] : List Value).toArray) below meth c s.heap [] 0 0 (MQ below (vp_Si (fun r => r = b2i (k_let cf nu fi ac md sz))) (([.ref qr, .long fi, .int ac, .int md, .int sz] : List Value).toArray) s 0 0 (fun _ => False)) (F0 m 13 ls []) := by
    intro n
    induction n with
    | zero =>
      intro k bf ls h1 h2
      exact absurd h2 (by omega)
    | succ n ih =>
      intro k bf ls hk hn hq hl
      refine lv_iload hx hb dX0_letThrough_13 (lv_at hl 6 rfl) ?_
      refine lv_bipush (v := 8) hx hb dX0_letThrough_15 (by decide) ?_
      refine lv_icmp_ge (tgt := 123) hx hb dX0_letThrough_17 (by decide) (fun c_1 => ?_) (fun c_1 => ?_)
      · have hk8 : k = 8 := k8_eq hk c_1
        rw [hk8] at hq
        refine lv_iload hx hb dX0_letThrough_123 (lv_at hl 3 rfl) ?_
        refine lv_iconst (v := 3) hx hb dX0_letThrough_125 (by decide) ?_
        refine lv_icmp_ne (tgt := 133) hx hb dX0_letThrough_126 (by decide) (fun c_2 => ?_) (fun c_2 => ?_)
        · refine lv_iconst (v := 0) hx hb dX0_letThrough_133 (by decide) ?_
          exact W.zret (v := 0) hx hb hr rfl (fun t ht hW => ⟨0, rfl, (by first | rfl | (rw [← hq]; simp only [k_letF, k_meets, k_holds, b2i, c_1, c_2, b2i, decide_true, decide_false, Bool.not_true, Bool.not_false, Bool.and_true, Bool.and_false, Bool.true_and, Bool.false_and, Bool.or_true, Bool.or_false, Bool.true_or, Bool.false_or, reduceIte, or_true, true_or, or_false, false_or, and_true, true_and, and_false, false_and, not_true_eq_false, not_false_eq_true, Bool.false_eq_true, eq_self]; done) | (rw [← hq]; simp [k_letF, k_meets, k_holds, b2i, c_1, c_2]; done)), ht⟩) (fun _ h => nomatch h) dX0_letThrough_134
        · refine lv_iconst (v := 1) hx hb dX0_letThrough_129 (by decide) ?_
          refine lv_goto (tgt := 134) hx hb dX0_letThrough_130 (by decide) ?_
          exact W.zret (v := 1) hx hb hr rfl (fun t ht hW => ⟨1, rfl, (by first | rfl | (rw [← hq]; simp only [k_letF, k_meets, k_holds, b2i, c_1, c_2, b2i, decide_true, decide_false, Bool.not_true, Bool.not_false, Bool.and_true, Bool.and_false, Bool.true_and, Bool.false_and, Bool.or_true, Bool.or_false, Bool.true_or, Bool.false_or, reduceIte, or_true, true_or, or_false, false_or, and_true, true_and, and_false, false_and, not_true_eq_false, not_false_eq_true, Bool.false_eq_true, eq_self]; done) | (rw [← hq]; simp [k_letF, k_meets, k_holds, b2i, c_1, c_2]; done)), ht⟩) (fun _ h => nomatch h) dX0_letThrough_134
      · have hk8 : k < 8 := k8_lt hk c_1
        rw [show 8 - k = (7 - k) + 1 by omega] at hq
        simp only [k_letF] at hq
        refine lv_aload_n hx hb dX0_letThrough_20 rfl (lv_at hl 0 rfl) ?_
        refine va_get (D := (dC, dI)) (ci := 0) (v := .ref qc) (C := RX0) (T := TX0) (N := 2) hx hb hts iwX0 hown hK hP 0 rfl rfl 0 (by decide) (hts (.fieldLink RX0 11 RX0 "configs" "[I") (wa 37 (by decide +kernel) rfl)) (fun _ h9 => h9) rfl dX0_letThrough_21 ?_
        refine lv_iload hx hb dX0_letThrough_24 (lv_at hl 6 rfl) ?_
        refine va_iald hx hb hK hP 1 1 rfl rfl (vp_in_nI hk8 (by omega)) dX0_letThrough_26 ?_
        rw [nI_clamp (show k < 2 ^ 31 by omega)]
        refine lv_istore (lv' := [(11, .int (cf k)), (0, .ref qr), (1, .long fi), (3, .int ac), (4, .int md), (6, .long (fi + Int32.toInt64 sz)), (8, .long bf), (10, .int (nI k))]) hx hb dX0_letThrough_27 hl (by decide) rfl (fun ls hl => ?_)
        refine lv_aload_n hx hb dX0_letThrough_29 rfl (lv_at hl 1 rfl) ?_
        refine va_get (D := (dC, dI)) (ci := 0) (v := .ref qn) (C := RX0) (T := TX0) (N := 2) hx hb hts iwX0 hown hK hP 0 rfl rfl 1 (by decide) (hts (.fieldLink RX0 15 RX0 "numbers" "[J") (wa 38 (by decide +kernel) rfl)) (fun _ h9 => h9) rfl dX0_letThrough_30 ?_
        refine lv_iload hx hb dX0_letThrough_33 (lv_at hl 7 rfl) ?_
        refine va_lald hx hb hK hP 2 0 rfl rfl (vp_in_nI hk8 (by omega)) dX0_letThrough_35 ?_
        rw [nI_clamp (show k < 2 ^ 31 by omega)]
        refine lv_lstore (lv' := [(12, .long (nu k)), (11, .int (cf k)), (0, .ref qr), (1, .long fi), (3, .int ac), (4, .int md), (6, .long (fi + Int32.toInt64 sz)), (8, .long bf), (10, .int (nI k))]) hx hb dX0_letThrough_36 hl (by decide) rfl (fun ls hl => ?_)
        refine lv_iload hx hb dX0_letThrough_38 (lv_at hl 1 rfl) ?_
        refine lv_lload hx hb dX0_letThrough_40 (lv_at hl 0 rfl) ?_
        refine lv_lload hx hb dX0_letThrough_42 (lv_at hl 7 rfl) ?_
        refine vp_callSl (W.runS (As := [.int (cf k), .long (nu k), .long bf]) (rest := []) ⟨hx, hb, hml, hown, hts⟩ (mtX0_startOf l (cf k) (nu k) bf) (va_cwS 3 hts (gAll (mc1 (wa 291 (by decide +kernel) rfl) (mc1 (wa 292 (by decide +kernel) rfl) (mc1 (wa 16 (by decide +kernel) rfl) mc0))) (wa 293 (by decide +kernel) rfl) (by decide +kernel)) rfl rfl rfl (by decide +kernel) ⟨Nat.le_of_ble_eq_true rfl, Nat.le_of_ble_eq_true rfl⟩) preEq rfl rfl hl.1 rfl (lv_room (Nat.le_of_ble_eq_true rfl)) dX0_letThrough_44 ⟨Nat.le_of_ble_eq_true rfl, Nat.le_of_ble_eq_true rfl⟩) (fun r_3 er_3 => ?_)
        have er_3 : r_3 = (k_startOf (cf k) (nu k) bf) := er_3
        subst er_3
        refine lv_lstore (lv' := [(14, .long (k_startOf (cf k) (nu k) bf)), (12, .long (nu k)), (11, .int (cf k)), (0, .ref qr), (1, .long fi), (3, .int ac), (4, .int md), (6, .long (fi + Int32.toInt64 sz)), (8, .long bf), (10, .int (nI k))]) hx hb dX0_letThrough_47 hl (by decide) rfl (fun ls hl => ?_)
        refine lv_iload hx hb dX0_letThrough_49 (lv_at hl 2 rfl) ?_
        refine lv_lload hx hb dX0_letThrough_51 (lv_at hl 1 rfl) ?_
        refine vp_callSl (W.runS (As := [.int (cf k), .long (nu k)]) (rest := []) ⟨hx, hb, hml, hown, hts⟩ (mtX0_endOf l (cf k) (nu k)) (va_cwS 2 hts (gAll (mc1 (wa 295 (by decide +kernel) rfl) (mc1 (wa 296 (by decide +kernel) rfl) (mc1 (wa 16 (by decide +kernel) rfl) mc0))) (wa 297 (by decide +kernel) rfl) (by decide +kernel)) rfl rfl rfl (by decide +kernel) ⟨Nat.le_of_ble_eq_true rfl, Nat.le_of_ble_eq_true rfl⟩) preEq rfl rfl hl.1 rfl (lv_room (Nat.le_of_ble_eq_true rfl)) dX0_letThrough_53 ⟨Nat.le_of_ble_eq_true rfl, Nat.le_of_ble_eq_true rfl⟩) (fun r_4 er_4 => ?_)
        have er_4 : r_4 = (k_endOf (cf k) (nu k)) := er_4
        subst er_4
        refine lv_lstore (lv' := [(16, .long (k_endOf (cf k) (nu k))), (14, .long (k_startOf (cf k) (nu k) bf)), (12, .long (nu k)), (11, .int (cf k)), (0, .ref qr), (1, .long fi), (3, .int ac), (4, .int md), (6, .long (fi + Int32.toInt64 sz)), (8, .long bf), (10, .int (nI k))]) hx hb dX0_letThrough_56 hl (by decide) rfl (fun ls hl => ?_)
        refine lv_lload hx hb dX0_letThrough_58 (lv_at hl 1 rfl) ?_
        refine lv_lload hx hb dX0_letThrough_60 (lv_at hl 0 rfl) ?_
        refine W.lcmp hx hb dX0_letThrough_62 ?_
        refine lv_if_ge (tgt := 113) hx hb dX0_letThrough_63 (by decide) (fun c_5 => ?_) (fun c_5 => ?_)
        · rw [lg_cmp_ge] at c_5
          refine lv_lload hx hb dX0_letThrough_113 (lv_at hl 2 rfl) ?_
          refine lv_lstore (lv' := [(8, .long (nu k)), (16, .long (k_endOf (cf k) (nu k))), (14, .long (k_startOf (cf k) (nu k) bf)), (12, .long (nu k)), (11, .int (cf k)), (0, .ref qr), (1, .long fi), (3, .int ac), (4, .int md), (6, .long (fi + Int32.toInt64 sz)), (10, .int (nI k))]) hx hb dX0_letThrough_115 hl (by decide) rfl (fun ls hl => ?_)
          refine lv_iinc (v := ((nI k) + 1)) (lv' := [(10, .int ((nI k) + 1)), (8, .long (nu k)), (16, .long (k_endOf (cf k) (nu k))), (14, .long (k_startOf (cf k) (nu k) bf)), (12, .long (nu k)), (11, .int (cf k)), (0, .ref qr), (1, .long fi), (3, .int ac), (4, .int md), (6, .long (fi + Int32.toInt64 sz))]) hx hb dX0_letThrough_117 hl (k := 10) rfl rfl (by decide) rfl (fun ls hl => ?_)
          refine lv_goto (tgt := 13) hx hb dX0_letThrough_120 (by decide) ?_
          rw [← nI_succ] at hl
          have hm : k_meets (cf k) (nu k) bf fi (fi + Int32.toInt64 sz) = false := by simp [k_meets, c_1, c_5]
          rw [hm, if_neg (by decide)] at hq
          exact ih (k + 1) (nu k) ls (by omega) (by omega) (by rw [show 8 - (k + 1) = 7 - k by omega]; exact hq) (lv_sub hl [6, 7, 8, 9, 10, 1, 0] rfl)
        · rw [lg_cmp_ge] at c_5
          refine lv_lload hx hb dX0_letThrough_66 (lv_at hl 1 rfl) ?_
          refine lv_lload hx hb dX0_letThrough_68 (lv_at hl 8 rfl) ?_
          refine W.lcmp hx hb dX0_letThrough_70 ?_
          refine lv_if_ge (tgt := 113) hx hb dX0_letThrough_71 (by decide) (fun c_6 => ?_) (fun c_6 => ?_)
          · rw [lg_cmp_ge] at c_6
            refine lv_lload hx hb dX0_letThrough_113 (lv_at hl 2 rfl) ?_
            refine lv_lstore (lv' := [(8, .long (nu k)), (16, .long (k_endOf (cf k) (nu k))), (14, .long (k_startOf (cf k) (nu k) bf)), (12, .long (nu k)), (11, .int (cf k)), (0, .ref qr), (1, .long fi), (3, .int ac), (4, .int md), (6, .long (fi + Int32.toInt64 sz)), (10, .int (nI k))]) hx hb dX0_letThrough_115 hl (by decide) rfl (fun ls hl => ?_)
            refine lv_iinc (v := ((nI k) + 1)) (lv' := [(10, .int ((nI k) + 1)), (8, .long (nu k)), (16, .long (k_endOf (cf k) (nu k))), (14, .long (k_startOf (cf k) (nu k) bf)), (12, .long (nu k)), (11, .int (cf k)), (0, .ref qr), (1, .long fi), (3, .int ac), (4, .int md), (6, .long (fi + Int32.toInt64 sz))]) hx hb dX0_letThrough_117 hl (k := 10) rfl rfl (by decide) rfl (fun ls hl => ?_)
            refine lv_goto (tgt := 13) hx hb dX0_letThrough_120 (by decide) ?_
            rw [← nI_succ] at hl
            have hm : k_meets (cf k) (nu k) bf fi (fi + Int32.toInt64 sz) = false := by simp [k_meets, c_1, c_5, c_6]
            rw [hm, if_neg (by decide)] at hq
            exact ih (k + 1) (nu k) ls (by omega) (by omega) (by rw [show 8 - (k + 1) = 7 - k by omega]; exact hq) (lv_sub hl [6, 7, 8, 9, 10, 1, 0] rfl)
          · rw [lg_cmp_ge] at c_6
            refine lv_lload_n hx hb dX0_letThrough_74 rfl (lv_at hl 5 rfl) ?_
            refine lv_lload hx hb dX0_letThrough_75 (lv_at hl 0 rfl) ?_
            refine W.lcmp hx hb dX0_letThrough_77 ?_
            refine lv_if_ge (tgt := 113) hx hb dX0_letThrough_78 (by decide) (fun c_7 => ?_) (fun c_7 => ?_)
            · rw [lg_cmp_ge] at c_7
              refine lv_lload hx hb dX0_letThrough_113 (lv_at hl 2 rfl) ?_
              refine lv_lstore (lv' := [(8, .long (nu k)), (16, .long (k_endOf (cf k) (nu k))), (14, .long (k_startOf (cf k) (nu k) bf)), (12, .long (nu k)), (11, .int (cf k)), (0, .ref qr), (1, .long fi), (3, .int ac), (4, .int md), (6, .long (fi + Int32.toInt64 sz)), (10, .int (nI k))]) hx hb dX0_letThrough_115 hl (by decide) rfl (fun ls hl => ?_)
              refine lv_iinc (v := ((nI k) + 1)) (lv' := [(10, .int ((nI k) + 1)), (8, .long (nu k)), (16, .long (k_endOf (cf k) (nu k))), (14, .long (k_startOf (cf k) (nu k) bf)), (12, .long (nu k)), (11, .int (cf k)), (0, .ref qr), (1, .long fi), (3, .int ac), (4, .int md), (6, .long (fi + Int32.toInt64 sz))]) hx hb dX0_letThrough_117 hl (k := 10) rfl rfl (by decide) rfl (fun ls hl => ?_)
              refine lv_goto (tgt := 13) hx hb dX0_letThrough_120 (by decide) ?_
              rw [← nI_succ] at hl
              have hm : k_meets (cf k) (nu k) bf fi (fi + Int32.toInt64 sz) = false := by simp [k_meets, c_1, c_5, c_6, c_7]
              rw [hm, if_neg (by decide)] at hq
              exact ih (k + 1) (nu k) ls (by omega) (by omega) (by rw [show 8 - (k + 1) = 7 - k by omega]; exact hq) (lv_sub hl [6, 7, 8, 9, 10, 1, 0] rfl)
            · rw [lg_cmp_ge] at c_7
              refine lv_lload hx hb dX0_letThrough_81 (lv_at hl 1 rfl) ?_
              refine lv_lload_n hx hb dX0_letThrough_83 rfl (lv_at hl 5 rfl) ?_
              refine W.lcmp hx hb dX0_letThrough_84 ?_
              refine lv_if_gt (tgt := 111) hx hb dX0_letThrough_85 (by decide) (fun c_8 => ?_) (fun c_8 => ?_)
              · rw [lg_cmp_gt] at c_8
                refine lv_iconst (v := 0) hx hb dX0_letThrough_111 (by decide) ?_
                exact W.zret (v := 0) hx hb hr rfl (fun t ht hW => ⟨0, rfl, (by first | rfl | (rw [← hq]; simp only [k_letF, k_meets, k_holds, b2i, c_1, c_5, c_6, c_7, c_8, b2i, decide_true, decide_false, Bool.not_true, Bool.not_false, Bool.and_true, Bool.and_false, Bool.true_and, Bool.false_and, Bool.or_true, Bool.or_false, Bool.true_or, Bool.false_or, reduceIte, or_true, true_or, or_false, false_or, and_true, true_and, and_false, false_and, not_true_eq_false, not_false_eq_true, Bool.false_eq_true, eq_self]; done) | (rw [← hq]; simp [k_letF, k_meets, k_holds, b2i, c_1, c_5, c_6, c_7, c_8]; done)), ht⟩) (fun _ h => nomatch h) dX0_letThrough_112
              · rw [lg_cmp_gt] at c_8
                refine lv_lload hx hb dX0_letThrough_88 (lv_at hl 8 rfl) ?_
                refine lv_lload hx hb dX0_letThrough_90 (lv_at hl 0 rfl) ?_
                refine W.lcmp hx hb dX0_letThrough_92 ?_
                refine lv_if_gt (tgt := 111) hx hb dX0_letThrough_93 (by decide) (fun c_9 => ?_) (fun c_9 => ?_)
                · rw [lg_cmp_gt] at c_9
                  refine lv_iconst (v := 0) hx hb dX0_letThrough_111 (by decide) ?_
                  exact W.zret (v := 0) hx hb hr rfl (fun t ht hW => ⟨0, rfl, (by first | rfl | (rw [← hq]; simp only [k_letF, k_meets, k_holds, b2i, c_1, c_5, c_6, c_7, c_8, c_9, b2i, decide_true, decide_false, Bool.not_true, Bool.not_false, Bool.and_true, Bool.and_false, Bool.true_and, Bool.false_and, Bool.or_true, Bool.or_false, Bool.true_or, Bool.false_or, reduceIte, or_true, true_or, or_false, false_or, and_true, true_and, and_false, false_and, not_true_eq_false, not_false_eq_true, Bool.false_eq_true, eq_self]; done) | (rw [← hq]; simp [k_letF, k_meets, k_holds, b2i, c_1, c_5, c_6, c_7, c_8, c_9]; done)), ht⟩) (fun _ h => nomatch h) dX0_letThrough_112
                · rw [lg_cmp_gt] at c_9
                  refine lv_iload hx hb dX0_letThrough_96 (lv_at hl 3 rfl) ?_
                  refine lv_iload_n hx hb dX0_letThrough_98 rfl (lv_at hl 6 rfl) ?_
                  refine lv_iload hx hb dX0_letThrough_99 (lv_at hl 7 rfl) ?_
                  refine vp_callSi (W.runS (As := [.int (cf k), .int ac, .int md]) (rest := []) ⟨hx, hb, hml, hown, hts⟩ (mtX0_permits l (cf k) ac md) (va_cwS 3 hts (gAll (mc1 (wa 298 (by decide +kernel) rfl) (mc1 (wa 299 (by decide +kernel) rfl) (mc1 (wa 16 (by decide +kernel) rfl) mc0))) (wa 300 (by decide +kernel) rfl) (by decide +kernel)) rfl rfl rfl (by decide +kernel) ⟨Nat.le_of_ble_eq_true rfl, Nat.le_of_ble_eq_true rfl⟩) preEq rfl rfl hl.1 rfl (lv_room (Nat.le_of_ble_eq_true rfl)) dX0_letThrough_101 ⟨Nat.le_of_ble_eq_true rfl, Nat.le_of_ble_eq_true rfl⟩) (fun r_10 er_10 => ?_)
                  have er_10 : r_10 = (b2i (k_permits (cf k) ac md)) := er_10
                  subst er_10
                  refine lv_if_eq (tgt := 111) hx hb dX0_letThrough_104 (by decide) (fun c_11 => ?_) (fun c_11 => ?_)
                  · rw [b2i_z] at c_11
                    refine lv_iconst (v := 0) hx hb dX0_letThrough_111 (by decide) ?_
                    exact W.zret (v := 0) hx hb hr rfl (fun t ht hW => ⟨0, rfl, (by first | rfl | (rw [← hq]; simp only [k_letF, k_meets, k_holds, b2i, c_1, c_5, c_6, c_7, c_8, c_9, c_11, b2i, decide_true, decide_false, Bool.not_true, Bool.not_false, Bool.and_true, Bool.and_false, Bool.true_and, Bool.false_and, Bool.or_true, Bool.or_false, Bool.true_or, Bool.false_or, reduceIte, or_true, true_or, or_false, false_or, and_true, true_and, and_false, false_and, not_true_eq_false, not_false_eq_true, Bool.false_eq_true, eq_self]; done) | (rw [← hq]; simp [k_letF, k_meets, k_holds, b2i, c_1, c_5, c_6, c_7, c_8, c_9, c_11]; done)), ht⟩) (fun _ h => nomatch h) dX0_letThrough_112
                  · rw [b2i_z] at c_11
                    rw [Bool.not_eq_false] at c_11
                    refine lv_iconst (v := 1) hx hb dX0_letThrough_107 (by decide) ?_
                    refine lv_goto (tgt := 112) hx hb dX0_letThrough_108 (by decide) ?_
                    exact W.zret (v := 1) hx hb hr rfl (fun t ht hW => ⟨1, rfl, (by first | rfl | (rw [← hq]; simp only [k_letF, k_meets, k_holds, b2i, c_1, c_5, c_6, c_7, c_8, c_9, c_11, b2i, decide_true, decide_false, Bool.not_true, Bool.not_false, Bool.and_true, Bool.and_false, Bool.true_and, Bool.false_and, Bool.or_true, Bool.or_false, Bool.true_or, Bool.false_or, reduceIte, or_true, true_or, or_false, false_or, and_true, true_and, and_false, false_and, not_true_eq_false, not_false_eq_true, Bool.false_eq_true, eq_self]; done) | (rw [← hq]; simp [k_letF, k_meets, k_holds, b2i, c_1, c_5, c_6, c_7, c_8, c_9, c_11]; done)), ht⟩) (fun _ h => nomatch h) dX0_letThrough_112
  refine lv_lload_n hx hb dX0_letThrough_0 rfl (lv_at hl 1 rfl) ?_
  refine lv_iload hx hb dX0_letThrough_1 (lv_at hl 4 rfl) ?_
  refine lv_i2l (v := Int32.toInt64 sz) hx hb dX0_letThrough_3 rfl ?_
  refine lv_ladd hx hb dX0_letThrough_4 ?_
  refine lv_lstore (lv' := [(6, .long (fi + (Int32.toInt64 sz))), (0, .ref qr), (1, .long fi), (3, .int ac), (4, .int md), (5, .int sz)]) hx hb dX0_letThrough_5 hl (by decide) rfl (fun ls hl => ?_)
  refine lv_lconst (v := 0) hx hb dX0_letThrough_7 (by decide) ?_
  refine lv_lstore (lv' := [(8, .long 0), (6, .long (fi + (Int32.toInt64 sz))), (0, .ref qr), (1, .long fi), (3, .int ac), (4, .int md), (5, .int sz)]) hx hb dX0_letThrough_8 hl (by decide) rfl (fun ls hl => ?_)
  refine lv_iconst (v := 0) hx hb dX0_letThrough_10 (by decide) ?_
  refine lv_istore (lv' := [(10, .int 0), (8, .long 0), (6, .long (fi + (Int32.toInt64 sz))), (0, .ref qr), (1, .long fi), (3, .int ac), (4, .int md), (5, .int sz)]) hx hb dX0_letThrough_11 hl (by decide) rfl (fun ls hl => ?_)
  exact loop 9 0 0 ls (by omega) (by omega) rfl (lv_sub hl [3, 4, 5, 6, 2, 1, 0] rfl)
set_option maxHeartbeats 4000000 in
set_option maxRecDepth 100000 in
theorem mtX0_numberOf (l : Launch) (dC : Nat → ClassId) (dI : Nat → Nat → Nat) (cL : ClassId) (cI : ClassId) (qr : Nat) (qc : Nat) (qn : Nat) (cf : Nat → Int32) (nu : Nat → Int64) (i : Int32) (hi0 : ¬ i < 0) (hi8 : i < 8) : Met l yX0_numberOf wsX0_numberOf ({ frames := 0, cells := 0, slots := 0, locals := 0 }) (va_Pc [.ref qr, .int i] (fun U => va_P (dC, dI) vwCl (wRG cL cI qr qc qn cf nu) U.heap ∧ va_K (dC, dI) vwCl [(cL, .long), (cI, .int)] U)) (vp_Sl (fun r => r = nu (Int32.toNatClampNeg i))) 0 0 (fun _ => False) := by
  refine Met.ofW (cc := cX0_numberOf) (maxL := 2) (ret := (some .long)) (by decide) rfl ?_
  intro p e s m args below meth c s₁ B hml hv
  obtain ⟨rfl, hP, hK⟩ := hv
  have hx := B.exec
  have hb := B.bytes
  have hr := B.returns
  have hts := atoms_spec (ws := wsX0_numberOf) B.pre
  have hown : s.vm.findClass RX0 = some m.cls := findClass_of_methodNamed B.named
  have hlocks := B.notSynchronized
  have hP : va_P (dC, dI) vwCl [(qr, .inr (0, [.ref qc, .ref qn])), (qc, .inl (cI, 8, .inl cf)), (qn, .inl (cL, 8, .inr (.inl nu)))] s.heap := hP
  have hl := lv_entry ([.ref qr, .int i]) (n := 2) (Nat.le_of_ble_eq_true rfl)
  rw [lg_entry_eq]
  generalize (lg_sl ([.ref qr, .int i]) ++ List.replicate (2 - (lg_sl ([.ref qr, .int i])).length) Slot.unset).toArray = ls at hl ⊢
  have hl : lv_has ls 2 [(0, .ref qr), (1, .int i)] := hl
  refine lv_iload_n hx hb dX0_numberOf_0 rfl (lv_at hl 1 rfl) ?_
  refine lv_if_lt (tgt := 10) hx hb dX0_numberOf_1 (by decide) (fun c_1 => ?_) (fun c_1 => ?_)
  · first | exact absurd c_1 hi0 | exact absurd c_1 hi8 | exact absurd hi0 c_1 | exact absurd hi8 c_1
  · refine lv_iload_n hx hb dX0_numberOf_4 rfl (lv_at hl 1 rfl) ?_
    refine lv_bipush (v := 8) hx hb dX0_numberOf_5 (by decide) ?_
    refine lv_icmp_lt (tgt := 20) hx hb dX0_numberOf_7 (by decide) (fun c_2 => ?_) (fun c_2 => ?_)
    · refine lv_aload_n hx hb dX0_numberOf_20 rfl (lv_at hl 0 rfl) ?_
      refine va_get (D := (dC, dI)) (ci := 0) (v := .ref qn) (C := RX0) (T := TX0) (N := 2) hx hb hts iwX0 hown hK hP 0 rfl rfl 1 (by decide) (hts (.fieldLink RX0 15 RX0 "numbers" "[J") (wa 38 (by decide +kernel) rfl)) (fun _ h9 => h9) rfl dX0_numberOf_21 ?_
      refine lv_iload_n hx hb dX0_numberOf_24 rfl (lv_at hl 1 rfl) ?_
      refine va_lald hx hb hK hP 2 0 rfl rfl (in8 hi0 hi8) dX0_numberOf_25 ?_
      exact W.lret (v := (nu (Int32.toNatClampNeg i))) hx hb hr (fun t ht hW => ⟨(nu (Int32.toNatClampNeg i)), rfl, (by first | rfl | (simp only [c_1, c_2, b2i, decide_true, decide_false, Bool.not_true, Bool.not_false, Bool.and_true, Bool.and_false, Bool.true_and, Bool.false_and, Bool.or_true, Bool.or_false, Bool.true_or, Bool.false_or, reduceIte, or_true, true_or, or_false, false_or, and_true, true_and, and_false, false_and, not_true_eq_false, not_false_eq_true, Bool.false_eq_true, eq_self]; done) | (simp [c_1, c_2]; done)), ht⟩) (fun _ h => nomatch h) dX0_numberOf_26
    · first | exact absurd c_1 hi0 | exact absurd c_1 hi8 | exact absurd c_2 hi0 | exact absurd c_2 hi8 | exact absurd hi0 c_1 | exact absurd hi8 c_1 | exact absurd hi0 c_2 | exact absurd hi8 c_2
