set_option maxHeartbeats 4000000 in
set_option maxRecDepth 100000 in
theorem mtX2_last (l : Launch) (dC : Nat → ClassId) (dI : Nat → Nat → Nat) (cL : ClassId) (cI : ClassId) (g0 : Nat) (gm : Nat) (gc : Nat) (gn : Nat) (cd : Int32) (w : Nat → Int64) (tb : Int64) (su : Bool) (mx : Bool) (cf : Nat → Int32) (nu : Nat → Int64) (fr : Int64) (tt : Int64) (hz : Nat) (ad : Int64) (ac : Int32) (md : Int32) (pl : Int64) (n : Nat) (hw : ¬ k_wordIndex pl = -1) (hn : okN nu) (hc : okC cf) (hmd : md = 0 ∨ md = 1) (hac : ac = 0 ∨ ac = 1 ∨ ac = 2) (hn3 : n ≤ 3) : Met l yX2_last wsX2_last ({ frames := 3, cells := 0, slots := 0, locals := 77 }) (va_Pc [.ref g0, .long ad, .int ac, .int md, .long pl, .int (nI n)] (fun U => U.heap.size = hz ∧ va_P (dC, dI) vwCl (wMD cL cI g0 gm gc gn cd w tb su mx cf nu fr tt) U.heap ∧ va_K (dC, dI) vwCl [(cL, .long), (cI, .int)] U ∧ va_D (fun _ => True) (wMD cL cI g0 gm gc gn cd w tb su mx cf nu fr tt))) (va_Ql (fun r (_ : Int64 × Int64) => r = (k_last w su mx cf nu ad ac md n pl).1) (fun u t => va_P (dC, dI) vwCl (wMD cL cI g0 gm gc gn cd (k_last w su mx cf nu ad ac md n pl).2 tb su mx cf nu u.1 u.2) t.heap ∧ va_K (dC, dI) vwCl [(cL, .long), (cI, .int)] t ∧ va_D (va_A (wMD cL cI g0 gm gc gn cd w tb su mx cf nu fr tt) hz) (wMD cL cI g0 gm gc gn cd (k_last w su mx cf nu ad ac md n pl).2 tb su mx cf nu u.1 u.2)) (va_A (wMD cL cI g0 gm gc gn cd w tb su mx cf nu fr tt) hz)) 0 0 (va_A (wMD cL cI g0 gm gc gn cd w tb su mx cf nu fr tt) hz) := by
  refine Met.ofW (cc := cX2_last) (maxL := 12) (ret := (some .long)) (by decide) rfl ?_
  intro p e s m args below meth c s₁ B hml hv
  obtain ⟨rfl, hsz, hP, hK, hD0⟩ := hv
  have hx := B.exec
  have hb := B.bytes
  have hr := B.returns
  have hts := atoms_spec (ws := wsX2_last) B.pre
  have hown : s.vm.findClass RX2 = some m.cls := findClass_of_methodNamed B.named
  have hlocks := B.notSynchronized
  subst hsz
  have hD := hD0.self (sz := s.heap.size)
  generalize hAe : va_A (wMD cL cI g0 gm gc gn cd w tb su mx cf nu fr tt) s.heap.size = A at hD ⊢
  have hA : ∀ q : Nat, s.heap.size ≤ q → A q := fun q h => by rw [← hAe]; exact Or.inr h
  have hS : va_S A s.heap s.heap [] := va_S.rf
  have hP : va_P (dC, dI) vwCl [(g0, .inr (2, [.int cd, .ref gm, .long tb, .int (b2i su), .int (b2i mx), .ref gc, .ref gn, .long fr, .long tt])), (gm, .inl (cL, 8192, .inr (.inl w))), (gc, .inl (cI, 8, .inl cf)), (gn, .inl (cL, 8, .inr (.inl nu)))] s.heap := hP
  have hD : va_D A [(g0, .inr (2, [.int cd, .ref gm, .long tb, .int (b2i su), .int (b2i mx), .ref gc, .ref gn, .long fr, .long tt])), (gm, .inl (cL, 8192, .inr (.inl w))), (gc, .inl (cI, 8, .inl cf)), (gn, .inl (cL, 8, .inr (.inl nu)))] := hD
  have hl := lv_entry ([.ref g0, .long ad, .int ac, .int md, .long pl, .int (nI n)]) (n := 12) (Nat.le_of_ble_eq_true rfl)
  rw [lg_entry_eq]
  generalize (lg_sl ([.ref g0, .long ad, .int ac, .int md, .long pl, .int (nI n)]) ++ List.replicate (12 - (lg_sl ([.ref g0, .long ad, .int ac, .int md, .long pl, .int (nI n)])).length) Slot.unset).toArray = ls at hl ⊢
  have hl : lv_has ls 12 [(0, .ref g0), (1, .long ad), (3, .int ac), (4, .int md), (5, .long pl), (7, .int (nI n))] := hl
  refine lv_aload_n hx hb dX2_last_0 rfl (lv_at hl 0 rfl) ?_
  refine va_get (D := (dC, dI)) (ci := 2) (v := .ref gm) (C := RX2) (T := TX2) (N := 9) hx hb hts iwX2 hown hK hP 0 rfl rfl 1 (by decide) (hts (.fieldLink RX2 7 RX2 "memory" "[J") (wa 356 (by decide +kernel) rfl)) (fun _ h9 => h9) rfl dX2_last_1 ?_
  refine lv_lload hx hb dX2_last_4 (lv_at hl 4 rfl) ?_
  refine vp_callSi (W.runS (As := [.long pl]) (rest := [.ref gm]) ⟨hx, hb, hml, hown, hts⟩ (mtX2_cell l pl) (va_cwS 1 hts (gAll (mc1 (wa 397 (by decide +kernel) rfl) (mc1 (wa 398 (by decide +kernel) rfl) (mc1 (wa 17 (by decide +kernel) rfl) mc0))) (wa 399 (by decide +kernel) rfl) (by decide +kernel)) rfl rfl rfl (by decide +kernel) ⟨Nat.le_of_ble_eq_true rfl, Nat.le_of_ble_eq_true rfl⟩) preEq rfl rfl hl.1 rfl (lv_room (Nat.le_of_ble_eq_true rfl)) dX2_last_6 ⟨Nat.le_of_ble_eq_true rfl, Nat.le_of_ble_eq_true rfl⟩) (fun r_1 er_1 => ?_)
  have er_1 : r_1 = (m_cell pl) := er_1
  subst er_1
  rw [m_cell_eq hw]
  refine va_lald hx hb hK hP 1 0 rfl rfl (wi_in hw) dX2_last_9 ?_
  refine lv_lstore (lv' := [(8, .long (k_at w pl)), (0, .ref g0), (1, .long ad), (3, .int ac), (4, .int md), (5, .long pl), (7, .int (nI n))]) hx hb dX2_last_10 hl (by decide) rfl (fun ls hl => ?_)
  refine lv_lconst (v := 1) hx hb dX2_last_12 (by decide) ?_
  refine lv_bipush (v := 9) hx hb dX2_last_13 (by decide) ?_
  refine lv_iload hx hb dX2_last_15 (lv_at hl 6 rfl) ?_
  refine lv_imul hx hb dX2_last_17 ?_
  refine lv_lshl (v := (k_shl 1 (9 * (nI n)))) hx hb dX2_last_18 rfl ?_
  refine lv_lconst (v := 1) hx hb dX2_last_19 (by decide) ?_
  refine lv_lsub hx hb dX2_last_20 ?_
  refine lv_lstore (lv' := [(10, .long ((k_shl 1 (9 * (nI n))) - 1)), (8, .long (k_at w pl)), (0, .ref g0), (1, .long ad), (3, .int ac), (4, .int md), (5, .long pl), (7, .int (nI n))]) hx hb dX2_last_21 hl (by decide) rfl (fun ls hl => ?_)
  refine lv_lload hx hb dX2_last_23 (lv_at hl 1 rfl) ?_
  refine vp_callSl (W.runS (As := [.long (k_at w pl)]) (rest := []) ⟨hx, hb, hml, hown, hts⟩ (mtX2_numberIn l (k_at w pl)) (va_cwS 1 hts (gAll (mc1 (wa 501 (by decide +kernel) rfl) (mc1 (wa 502 (by decide +kernel) rfl) (mc1 (wa 17 (by decide +kernel) rfl) mc0))) (wa 503 (by decide +kernel) rfl) (by decide +kernel)) rfl rfl rfl (by decide +kernel) ⟨Nat.le_of_ble_eq_true rfl, Nat.le_of_ble_eq_true rfl⟩) preEq rfl rfl hl.1 rfl (lv_room (Nat.le_of_ble_eq_true rfl)) dX2_last_25 ⟨Nat.le_of_ble_eq_true rfl, Nat.le_of_ble_eq_true rfl⟩) (fun r_2 er_2 => ?_)
  have er_2 : r_2 = (k_pageNumber (k_at w pl)) := er_2
  subst er_2
  refine lv_lload hx hb dX2_last_28 (lv_at hl 0 rfl) ?_
  refine lv_land hx hb dX2_last_30 ?_
  refine lv_lconst (v := 0) hx hb dX2_last_31 (by decide) ?_
  refine W.lcmp hx hb dX2_last_32 ?_
  refine lv_if_ne (tgt := 48) hx hb dX2_last_33 (by decide) (fun c_3 => ?_) (fun c_3 => ?_)
  · rw [lg_cmp_eq] at c_3
    refine lv_iload_n hx hb dX2_last_48 rfl (lv_at hl 4 rfl) ?_
    refine vp_callSl (W.runS (As := [.int ac]) (rest := []) ⟨hx, hb, hml, hown, hts⟩ (mtX2_pageFault l ac) (va_cwS 1 hts (gAll (mc1 (wa 483 (by decide +kernel) rfl) (mc1 (wa 484 (by decide +kernel) rfl) (mc1 (wa 17 (by decide +kernel) rfl) mc0))) (wa 485 (by decide +kernel) rfl) (by decide +kernel)) rfl rfl rfl (by decide +kernel) ⟨Nat.le_of_ble_eq_true rfl, Nat.le_of_ble_eq_true rfl⟩) preEq rfl rfl hl.1 rfl (lv_room (Nat.le_of_ble_eq_true rfl)) dX2_last_49 ⟨Nat.le_of_ble_eq_true rfl, Nat.le_of_ble_eq_true rfl⟩) (fun r_4 er_4 => ?_)
    have er_4 : r_4 = (k_pageFault ac) := er_4
    subst er_4
    have w9_0 : (k_last w su mx cf nu ad ac md n pl).2 = w := (by first | rfl | (simp only [k_last, k_mark, m_marks, grants_eq hmd hac]; simp only [km2, c_3, b2i, decide_true, decide_false, Bool.not_true, Bool.not_false, Bool.and_true, Bool.and_false, Bool.true_and, Bool.false_and, Bool.or_true, Bool.or_false, Bool.true_or, Bool.false_or, reduceIte, or_true, true_or, or_false, false_or, and_true, true_and, and_false, false_and, not_true_eq_false, not_false_eq_true, Bool.false_eq_true, eq_self]; done) | (simp only [k_last, k_mark, m_marks, grants_eq hmd hac]; simp [km2, c_3]; done))
    have hP9 : va_P (dC, dI) vwCl (wMD cL cI g0 gm gc gn cd (k_last w su mx cf nu ad ac md n pl).2 tb su mx cf nu fr tt) s.heap := (by rw [w9_0]; exact hP)
    have hD9 : va_D A (wMD cL cI g0 gm gc gn cd (k_last w su mx cf nu ad ac md n pl).2 tb su mx cf nu fr tt) := (by rw [w9_0]; exact hD)
    exact W.lret (v := (k_pageFault ac)) hx hb hr (fun t ht hW => ⟨⟨(k_pageFault ac), (fr, tt), rfl, (by first | rfl | (simp only [k_last, k_mark, m_marks, grants_eq hmd hac]; simp only [km2, c_3, b2i, decide_true, decide_false, Bool.not_true, Bool.not_false, Bool.and_true, Bool.and_false, Bool.true_and, Bool.false_and, Bool.or_true, Bool.or_false, Bool.true_or, Bool.false_or, reduceIte, or_true, true_or, or_false, false_or, and_true, true_and, and_false, false_and, not_true_eq_false, not_false_eq_true, Bool.false_eq_true, eq_self]; done) | (simp only [k_last, k_mark, m_marks, grants_eq hmd hac]; simp [km2, c_3]; done)), (by rw [ht]; exact hP9), va_K.moved hW.alike hK, hD9⟩, hS.F ht⟩) hS.2.2 dX2_last_52
  · rw [lg_cmp_eq] at c_3
    refine lv_aload_n hx hb dX2_last_36 rfl (lv_at hl 2 rfl) ?_
    refine lv_lload hx hb dX2_last_37 (lv_at hl 1 rfl) ?_
    refine lv_iload_n hx hb dX2_last_39 rfl (lv_at hl 4 rfl) ?_
    refine lv_iload hx hb dX2_last_40 (lv_at hl 5 rfl) ?_
    refine vp_callSi (W.runV (As := [.long (k_at w pl), .int ac, .int md]) (rest := []) ⟨hx, hb, hml, hown, hts⟩ (mtX2_refuses l dC dI cL cI g0 gm gc gn cd w tb su mx cf nu fr tt (k_at w pl) ac md ) (cwV 3 hts (gAll (mc1 (wa 504 (by decide +kernel) rfl) (mc1 (wa 506 (by decide +kernel) rfl) (mc1 (wa 13 (by decide +kernel) rfl) (mc1 (wa 17 (by decide +kernel) rfl) mc0)))) (wa 507 (by decide +kernel) rfl) (by decide +kernel)) rfl rfl rfl (by decide +kernel) ⟨Nat.le_of_ble_eq_true rfl, Nat.le_of_ble_eq_true rfl⟩) (rd_pre (ci := 2) (q0 := 0) hK hP rfl rfl) rfl rfl hl.1 rfl (lv_room (Nat.le_of_ble_eq_true rfl)) dX2_last_42 ⟨Nat.le_of_ble_eq_true rfl, Nat.le_of_ble_eq_true rfl⟩) (fun r_5 er_5 => ?_)
    have er_5 : r_5 = (b2i (m_refuses su mx (k_at w pl) ac md)) := er_5
    subst er_5
    refine lv_if_eq (tgt := 53) hx hb dX2_last_45 (by decide) (fun c_6 => ?_) (fun c_6 => ?_)
    · rw [b2i_z] at c_6
      refine lv_lload hx hb dX2_last_53 (lv_at hl 1 rfl) ?_
      refine lv_bipush (v := 6) hx hb dX2_last_55 (by decide) ?_
      refine vp_callSi (W.runS (As := [.long (k_at w pl), .int 6]) (rest := []) ⟨hx, hb, hml, hown, hts⟩ (mtX2_bit l (k_at w pl) 6) (va_cwS 2 hts (gAll (mc1 (wa 494 (by decide +kernel) rfl) (mc1 (wa 495 (by decide +kernel) rfl) (mc1 (wa 17 (by decide +kernel) rfl) mc0))) (wa 496 (by decide +kernel) rfl) (by decide +kernel)) rfl rfl rfl (by decide +kernel) ⟨Nat.le_of_ble_eq_true rfl, Nat.le_of_ble_eq_true rfl⟩) preEq rfl rfl hl.1 rfl (lv_room (Nat.le_of_ble_eq_true rfl)) dX2_last_57 ⟨Nat.le_of_ble_eq_true rfl, Nat.le_of_ble_eq_true rfl⟩) (fun r_7 er_7 => ?_)
      have er_7 : r_7 = (b2i (m_bit (k_at w pl) 6)) := er_7
      subst er_7
      refine lv_if_eq (tgt := 78) hx hb dX2_last_60 (by decide) (fun c_8 => ?_) (fun c_8 => ?_)
      · rw [b2i_z] at c_8
        refine lv_aload_n hx hb dX2_last_78 rfl (lv_at hl 2 rfl) ?_
        refine lv_lload hx hb dX2_last_79 (lv_at hl 6 rfl) ?_
        refine lv_iconst (v := 2) hx hb dX2_last_81 (by decide) ?_
        refine lv_iconst (v := 1) hx hb dX2_last_82 (by decide) ?_
        refine lv_bipush (v := 8) hx hb dX2_last_83 (by decide) ?_
        have hPc := hP.sub (ws' := (wMD cL cI g0 gm gc gn cd w tb su mx cf nu fr tt)) [0, 1, 2, 3] rfl
        have hDc := hD.sub (ws' := (wMD cL cI g0 gm gc gn cd w tb su mx cf nu fr tt)) [0, 1, 2, 3] (by decide) rfl
        have hFc := va_free (wc := (wMD cL cI g0 gm gc gn cd w tb su mx cf nu fr tt)) hD hS hA [0, 1, 2, 3] rfl
        refine va_calli (va_runV (As := [.long pl, .int 2, .int 1, .int 8]) (rest := []) ⟨hx, hb, hml, hown, hts⟩ (mtX2_isLet l dC dI cL cI g0 gm gc gn cd w tb su mx cf nu fr tt s.heap.size pl 2 1 8 (wi_addr hw) (Or.inr (Or.inr (Or.inr rfl))) (hn) (hc)) (cwV 4 hts (gAll (mc1 (wa 458 (by decide +kernel) rfl) (mc1 (wa 460 (by decide +kernel) rfl) (mc1 (wa 9 (by decide +kernel) rfl) (mc1 (wa 17 (by decide +kernel) rfl) mc0)))) (wa 461 (by decide +kernel) rfl) (by decide +kernel)) rfl rfl rfl (by decide +kernel) ⟨Nat.le_of_ble_eq_true rfl, Nat.le_of_ble_eq_true rfl⟩) (mu_pre (ci := 2) (q0 := 0) hK hPc hDc rfl rfl) rfl rfl hl.1 rfl (lv_room (Nat.le_of_ble_eq_true rfl)) dX2_last_85 ⟨Nat.le_of_ble_eq_true rfl, Nat.le_of_ble_eq_true rfl⟩) hS (fun q _ h => hFc q h) hFc (fun v_9 r_9 t H1 locs ht hvm hpo hB hz1 hk1 hS => ?_)
        obtain ⟨hP1, hK1, hD1⟩ := hB
        rw [ht] at hP1
        obtain ⟨hP, hD⟩ := va_join (wr := []) (w1 := (wMD cL cI g0 gm gc gn cd w tb su mx cf nu r_9.1 r_9.2)) hP hD [0, 1, 2, 3] [] rfl rfl (by decide) (by decide) hk1 hFc hP1 hD1
        generalize H1 = H at hP hS ⊢
        have hP : va_P (dC, dI) vwCl [(g0, .inr (2, [.int cd, .ref gm, .long tb, .int (b2i su), .int (b2i mx), .ref gc, .ref gn, .long r_9.1, .long r_9.2])), (gm, .inl (cL, 8192, .inr (.inl w))), (gc, .inl (cI, 8, .inl cf)), (gn, .inl (cL, 8, .inr (.inl nu)))] H := hP
        have hD : va_D A [(g0, .inr (2, [.int cd, .ref gm, .long tb, .int (b2i su), .int (b2i mx), .ref gc, .ref gn, .long r_9.1, .long r_9.2])), (gm, .inl (cL, 8192, .inr (.inl w))), (gc, .inl (cI, 8, .inl cf)), (gn, .inl (cL, 8, .inr (.inl nu)))] := hD
        have ev_9 : v_9 = (b2i (k_let cf nu pl 2 1 8)) := hpo
        subst ev_9
        refine lv_if_ne (tgt := 96) hx hb dX2_last_88 (by decide) (fun c_10 => ?_) (fun c_10 => ?_)
        · rw [b2i_z] at c_10
          rw [Bool.not_eq_false] at c_10
          refine lv_aload_n hx hb dX2_last_96 rfl (lv_at hl 2 rfl) ?_
          refine va_get (D := (dC, dI)) (ci := 2) (v := .ref gm) (C := RX2) (T := TX2) (N := 9) hx hb hts iwX2 hown hK hP 0 rfl rfl 1 (by decide) (hts (.fieldLink RX2 7 RX2 "memory" "[J") (wa 356 (by decide +kernel) rfl)) (fun _ h9 => h9) rfl dX2_last_97 ?_
          refine lv_lload hx hb dX2_last_100 (lv_at hl 6 rfl) ?_
          refine vp_callSi (W.runS (As := [.long pl]) (rest := [.ref gm]) ⟨hx, hb, hml, hown, hts⟩ (mtX2_cell l pl) (va_cwS 1 hts (gAll (mc1 (wa 397 (by decide +kernel) rfl) (mc1 (wa 398 (by decide +kernel) rfl) (mc1 (wa 17 (by decide +kernel) rfl) mc0))) (wa 399 (by decide +kernel) rfl) (by decide +kernel)) rfl rfl rfl (by decide +kernel) ⟨Nat.le_of_ble_eq_true rfl, Nat.le_of_ble_eq_true rfl⟩) preEq rfl rfl hl.1 rfl (lv_room (Nat.le_of_ble_eq_true rfl)) dX2_last_102 ⟨Nat.le_of_ble_eq_true rfl, Nat.le_of_ble_eq_true rfl⟩) (fun r_11 er_11 => ?_)
          have er_11 : r_11 = (m_cell pl) := er_11
          subst er_11
          rw [m_cell_eq hw]
          refine lv_lload hx hb dX2_last_105 (lv_at hl 1 rfl) ?_
          refine lv_iload_n hx hb dX2_last_107 rfl (lv_at hl 4 rfl) ?_
          refine lv_iconst (v := 2) hx hb dX2_last_108 (by decide) ?_
          refine lv_icmp_ne (tgt := 118) hx hb dX2_last_109 (by decide) (fun c_12 => ?_) (fun c_12 => ?_)
          · have hkm : k_marks ac = 64 := if_neg c_12
            refine lv_ldc2 (v := 64) hx hb hown (hts (.constantLong RX2 141 64) (wa 509 (by decide +kernel) rfl)) dX2_last_118 ?_
            refine lv_lor hx hb dX2_last_121 ?_
            refine va_last hx hb hK hP hD hS 1 0 rfl rfl (wi_in hw) dX2_last_122 (fun H locs hP hD hS => ?_)
            have hP : va_P (dC, dI) vwCl [(g0, .inr (2, [.int cd, .ref gm, .long tb, .int (b2i su), .int (b2i mx), .ref gc, .ref gn, .long r_9.1, .long r_9.2])), (gm, .inl (cL, 8192, .inr (.inl (vp_updL w (Int32.toNatClampNeg (k_wordIndex pl)) ((k_at w pl) ||| 64))))), (gc, .inl (cI, 8, .inl cf)), (gn, .inl (cL, 8, .inr (.inl nu)))] H := hP
            have hD : va_D A [(g0, .inr (2, [.int cd, .ref gm, .long tb, .int (b2i su), .int (b2i mx), .ref gc, .ref gn, .long r_9.1, .long r_9.2])), (gm, .inl (cL, 8192, .inr (.inl (vp_updL w (Int32.toNatClampNeg (k_wordIndex pl)) ((k_at w pl) ||| 64))))), (gc, .inl (cI, 8, .inl cf)), (gn, .inl (cL, 8, .inr (.inl nu)))] := hD
            refine lv_ldc2 (v := 4096) hx hb hown (hts (.constantLong RX2 85 4096) (wa 457 (by decide +kernel) rfl)) dX2_last_123 ?_
            refine lv_lload hx hb dX2_last_126 (lv_at hl 1 rfl) ?_
            refine vp_callSl (W.runS (As := [.long (k_at w pl)]) (rest := [.long 4096]) ⟨hx, hb, hml, hown, hts⟩ (mtX2_numberIn l (k_at w pl)) (va_cwS 1 hts (gAll (mc1 (wa 501 (by decide +kernel) rfl) (mc1 (wa 502 (by decide +kernel) rfl) (mc1 (wa 17 (by decide +kernel) rfl) mc0))) (wa 503 (by decide +kernel) rfl) (by decide +kernel)) rfl rfl rfl (by decide +kernel) ⟨Nat.le_of_ble_eq_true rfl, Nat.le_of_ble_eq_true rfl⟩) preEq rfl rfl hl.1 rfl (lv_room (Nat.le_of_ble_eq_true rfl)) dX2_last_128 ⟨Nat.le_of_ble_eq_true rfl, Nat.le_of_ble_eq_true rfl⟩) (fun r_13 er_13 => ?_)
            have er_13 : r_13 = (k_pageNumber (k_at w pl)) := er_13
            subst er_13
            refine lv_lmul hx hb dX2_last_131 ?_
            refine lv_lload_n hx hb dX2_last_132 rfl (lv_at hl 3 rfl) ?_
            refine lv_ldc2 (v := 4096) hx hb hown (hts (.constantLong RX2 85 4096) (wa 457 (by decide +kernel) rfl)) dX2_last_133 ?_
            refine lv_lload hx hb dX2_last_136 (lv_at hl 0 rfl) ?_
            refine lv_lmul hx hb dX2_last_138 ?_
            refine lv_ldc2 (v := 4095) hx hb hown (hts (.constantLong RX2 83 4095) (wa 456 (by decide +kernel) rfl)) dX2_last_139 ?_
            refine lv_ladd hx hb dX2_last_142 ?_
            refine lv_land hx hb dX2_last_143 ?_
            refine lv_ladd hx hb dX2_last_144 ?_
            rw [target_eq hn3 c_3]
            have w9_0 : (k_last w su mx cf nu ad ac md n pl).2 = (vp_updL w (Int32.toNatClampNeg (k_wordIndex pl)) ((k_at w pl) ||| 64)) := (by first | rfl | (simp only [k_last, k_mark, m_marks, grants_eq hmd hac]; simp only [km2, eq_true c_3, c_6, c_8, c_10, c_12, hkm, b2i, decide_true, decide_false, Bool.not_true, Bool.not_false, Bool.and_true, Bool.and_false, Bool.true_and, Bool.false_and, Bool.or_true, Bool.or_false, Bool.true_or, Bool.false_or, reduceIte, or_true, true_or, or_false, false_or, and_true, true_and, and_false, false_and, not_true_eq_false, not_false_eq_true, Bool.false_eq_true, eq_self]; done) | (simp only [k_last, k_mark, m_marks, grants_eq hmd hac]; simp [km2, eq_true c_3, c_6, c_8, c_10, c_12, hkm]; done) | (simp only [k_last, k_mark, m_marks, grants_eq hmd hac]; simp only [km2, c_3, c_6, c_8, c_10, c_12, hkm, b2i, decide_true, decide_false, Bool.not_true, Bool.not_false, Bool.and_true, Bool.and_false, Bool.true_and, Bool.false_and, Bool.or_true, Bool.or_false, Bool.true_or, Bool.false_or, reduceIte, or_true, true_or, or_false, false_or, and_true, true_and, and_false, false_and, not_true_eq_false, not_false_eq_true, Bool.false_eq_true, eq_self]; done) | (simp only [k_last, k_mark, m_marks, grants_eq hmd hac]; simp [km2, c_3, c_6, c_8, c_10, c_12, hkm]; done) | (exfalso; first | exact absurd c_3 c_6 | exact absurd c_3 c_8 | exact absurd c_3 c_10 | exact absurd c_3 c_12 | exact absurd c_6 c_3 | exact absurd c_6 c_8 | exact absurd c_6 c_10 | exact absurd c_6 c_12 | exact absurd c_8 c_3 | exact absurd c_8 c_6 | exact absurd c_8 c_10 | exact absurd c_8 c_12 | exact absurd c_10 c_3 | exact absurd c_10 c_6 | exact absurd c_10 c_8 | exact absurd c_10 c_12 | exact absurd c_12 c_3 | exact absurd c_12 c_6 | exact absurd c_12 c_8 | exact absurd c_12 c_10 | exact absurd (c_3.symm.trans c_6) (by decide) | exact absurd (c_3.symm.trans c_8) (by decide) | exact absurd (c_3.symm.trans c_10) (by decide) | exact absurd (c_3.symm.trans c_12) (by decide) | exact absurd (c_6.symm.trans c_8) (by decide) | exact absurd (c_6.symm.trans c_10) (by decide) | exact absurd (c_6.symm.trans c_12) (by decide) | exact absurd (c_8.symm.trans c_10) (by decide) | exact absurd (c_8.symm.trans c_12) (by decide) | exact absurd (c_10.symm.trans c_12) (by decide)))
            have hP9 : va_P (dC, dI) vwCl (wMD cL cI g0 gm gc gn cd (k_last w su mx cf nu ad ac md n pl).2 tb su mx cf nu r_9.1 r_9.2) H := (by rw [w9_0]; exact hP)
            have hD9 : va_D A (wMD cL cI g0 gm gc gn cd (k_last w su mx cf nu ad ac md n pl).2 tb su mx cf nu r_9.1 r_9.2) := (by rw [w9_0]; exact hD)
            exact W.lret (v := (k_target (k_at w pl) ad (nI n))) hx hb hr (fun t ht hW => ⟨⟨(k_target (k_at w pl) ad (nI n)), (r_9.1, r_9.2), rfl, (by first | rfl | (simp only [k_last, k_mark, m_marks, grants_eq hmd hac]; simp only [km2, eq_true c_3, c_6, c_8, c_10, c_12, hkm, b2i, decide_true, decide_false, Bool.not_true, Bool.not_false, Bool.and_true, Bool.and_false, Bool.true_and, Bool.false_and, Bool.or_true, Bool.or_false, Bool.true_or, Bool.false_or, reduceIte, or_true, true_or, or_false, false_or, and_true, true_and, and_false, false_and, not_true_eq_false, not_false_eq_true, Bool.false_eq_true, eq_self]; done) | (simp only [k_last, k_mark, m_marks, grants_eq hmd hac]; simp [km2, eq_true c_3, c_6, c_8, c_10, c_12, hkm]; done) | (simp only [k_last, k_mark, m_marks, grants_eq hmd hac]; simp only [km2, c_3, c_6, c_8, c_10, c_12, hkm, b2i, decide_true, decide_false, Bool.not_true, Bool.not_false, Bool.and_true, Bool.and_false, Bool.true_and, Bool.false_and, Bool.or_true, Bool.or_false, Bool.true_or, Bool.false_or, reduceIte, or_true, true_or, or_false, false_or, and_true, true_and, and_false, false_and, not_true_eq_false, not_false_eq_true, Bool.false_eq_true, eq_self]; done) | (simp only [k_last, k_mark, m_marks, grants_eq hmd hac]; simp [km2, c_3, c_6, c_8, c_10, c_12, hkm]; done) | (exfalso; first | exact absurd c_3 c_6 | exact absurd c_3 c_8 | exact absurd c_3 c_10 | exact absurd c_3 c_12 | exact absurd c_6 c_3 | exact absurd c_6 c_8 | exact absurd c_6 c_10 | exact absurd c_6 c_12 | exact absurd c_8 c_3 | exact absurd c_8 c_6 | exact absurd c_8 c_10 | exact absurd c_8 c_12 | exact absurd c_10 c_3 | exact absurd c_10 c_6 | exact absurd c_10 c_8 | exact absurd c_10 c_12 | exact absurd c_12 c_3 | exact absurd c_12 c_6 | exact absurd c_12 c_8 | exact absurd c_12 c_10 | exact absurd (c_3.symm.trans c_6) (by decide) | exact absurd (c_3.symm.trans c_8) (by decide) | exact absurd (c_3.symm.trans c_10) (by decide) | exact absurd (c_3.symm.trans c_12) (by decide) | exact absurd (c_6.symm.trans c_8) (by decide) | exact absurd (c_6.symm.trans c_10) (by decide) | exact absurd (c_6.symm.trans c_12) (by decide) | exact absurd (c_8.symm.trans c_10) (by decide) | exact absurd (c_8.symm.trans c_12) (by decide) | exact absurd (c_10.symm.trans c_12) (by decide))), (by rw [ht]; exact hP9), va_K.moved hW.alike hK, hD9⟩, hS.F ht⟩) hS.2.2 dX2_last_145
          · have hkm : k_marks ac = 192 := if_pos c_12
            refine lv_ldc2 (v := 192) hx hb hown (hts (.constantLong RX2 139 192) (wa 508 (by decide +kernel) rfl)) dX2_last_112 ?_
            refine lv_goto (tgt := 121) hx hb dX2_last_115 (by decide) ?_
            refine lv_lor hx hb dX2_last_121 ?_
            refine va_last hx hb hK hP hD hS 1 0 rfl rfl (wi_in hw) dX2_last_122 (fun H locs hP hD hS => ?_)
            have hP : va_P (dC, dI) vwCl [(g0, .inr (2, [.int cd, .ref gm, .long tb, .int (b2i su), .int (b2i mx), .ref gc, .ref gn, .long r_9.1, .long r_9.2])), (gm, .inl (cL, 8192, .inr (.inl (vp_updL w (Int32.toNatClampNeg (k_wordIndex pl)) ((k_at w pl) ||| 192))))), (gc, .inl (cI, 8, .inl cf)), (gn, .inl (cL, 8, .inr (.inl nu)))] H := hP
            have hD : va_D A [(g0, .inr (2, [.int cd, .ref gm, .long tb, .int (b2i su), .int (b2i mx), .ref gc, .ref gn, .long r_9.1, .long r_9.2])), (gm, .inl (cL, 8192, .inr (.inl (vp_updL w (Int32.toNatClampNeg (k_wordIndex pl)) ((k_at w pl) ||| 192))))), (gc, .inl (cI, 8, .inl cf)), (gn, .inl (cL, 8, .inr (.inl nu)))] := hD
            refine lv_ldc2 (v := 4096) hx hb hown (hts (.constantLong RX2 85 4096) (wa 457 (by decide +kernel) rfl)) dX2_last_123 ?_
            refine lv_lload hx hb dX2_last_126 (lv_at hl 1 rfl) ?_
            refine vp_callSl (W.runS (As := [.long (k_at w pl)]) (rest := [.long 4096]) ⟨hx, hb, hml, hown, hts⟩ (mtX2_numberIn l (k_at w pl)) (va_cwS 1 hts (gAll (mc1 (wa 501 (by decide +kernel) rfl) (mc1 (wa 502 (by decide +kernel) rfl) (mc1 (wa 17 (by decide +kernel) rfl) mc0))) (wa 503 (by decide +kernel) rfl) (by decide +kernel)) rfl rfl rfl (by decide +kernel) ⟨Nat.le_of_ble_eq_true rfl, Nat.le_of_ble_eq_true rfl⟩) preEq rfl rfl hl.1 rfl (lv_room (Nat.le_of_ble_eq_true rfl)) dX2_last_128 ⟨Nat.le_of_ble_eq_true rfl, Nat.le_of_ble_eq_true rfl⟩) (fun r_14 er_14 => ?_)
            have er_14 : r_14 = (k_pageNumber (k_at w pl)) := er_14
            subst er_14
            refine lv_lmul hx hb dX2_last_131 ?_
            refine lv_lload_n hx hb dX2_last_132 rfl (lv_at hl 3 rfl) ?_
            refine lv_ldc2 (v := 4096) hx hb hown (hts (.constantLong RX2 85 4096) (wa 457 (by decide +kernel) rfl)) dX2_last_133 ?_
            refine lv_lload hx hb dX2_last_136 (lv_at hl 0 rfl) ?_
            refine lv_lmul hx hb dX2_last_138 ?_
            refine lv_ldc2 (v := 4095) hx hb hown (hts (.constantLong RX2 83 4095) (wa 456 (by decide +kernel) rfl)) dX2_last_139 ?_
            refine lv_ladd hx hb dX2_last_142 ?_
            refine lv_land hx hb dX2_last_143 ?_
            refine lv_ladd hx hb dX2_last_144 ?_
            rw [target_eq hn3 c_3]
            have w9_0 : (k_last w su mx cf nu ad ac md n pl).2 = (vp_updL w (Int32.toNatClampNeg (k_wordIndex pl)) ((k_at w pl) ||| 192)) := (by first | rfl | (simp only [k_last, k_mark, m_marks, grants_eq hmd hac]; simp only [km2, eq_true c_3, c_6, c_8, c_10, eq_true c_12, hkm, b2i, decide_true, decide_false, Bool.not_true, Bool.not_false, Bool.and_true, Bool.and_false, Bool.true_and, Bool.false_and, Bool.or_true, Bool.or_false, Bool.true_or, Bool.false_or, reduceIte, or_true, true_or, or_false, false_or, and_true, true_and, and_false, false_and, not_true_eq_false, not_false_eq_true, Bool.false_eq_true, eq_self]; done) | (simp only [k_last, k_mark, m_marks, grants_eq hmd hac]; simp [km2, eq_true c_3, c_6, c_8, c_10, eq_true c_12, hkm]; done) | (simp only [k_last, k_mark, m_marks, grants_eq hmd hac]; simp only [km2, c_3, c_6, c_8, c_10, c_12, hkm, b2i, decide_true, decide_false, Bool.not_true, Bool.not_false, Bool.and_true, Bool.and_false, Bool.true_and, Bool.false_and, Bool.or_true, Bool.or_false, Bool.true_or, Bool.false_or, reduceIte, or_true, true_or, or_false, false_or, and_true, true_and, and_false, false_and, not_true_eq_false, not_false_eq_true, Bool.false_eq_true, eq_self]; done) | (simp only [k_last, k_mark, m_marks, grants_eq hmd hac]; simp [km2, c_3, c_6, c_8, c_10, c_12, hkm]; done) | (exfalso; first | exact absurd c_3 c_6 | exact absurd c_3 c_8 | exact absurd c_3 c_10 | exact absurd c_3 c_12 | exact absurd c_6 c_3 | exact absurd c_6 c_8 | exact absurd c_6 c_10 | exact absurd c_6 c_12 | exact absurd c_8 c_3 | exact absurd c_8 c_6 | exact absurd c_8 c_10 | exact absurd c_8 c_12 | exact absurd c_10 c_3 | exact absurd c_10 c_6 | exact absurd c_10 c_8 | exact absurd c_10 c_12 | exact absurd c_12 c_3 | exact absurd c_12 c_6 | exact absurd c_12 c_8 | exact absurd c_12 c_10 | exact absurd (c_3.symm.trans c_6) (by decide) | exact absurd (c_3.symm.trans c_8) (by decide) | exact absurd (c_3.symm.trans c_10) (by decide) | exact absurd (c_3.symm.trans c_12) (by decide) | exact absurd (c_6.symm.trans c_8) (by decide) | exact absurd (c_6.symm.trans c_10) (by decide) | exact absurd (c_6.symm.trans c_12) (by decide) | exact absurd (c_8.symm.trans c_10) (by decide) | exact absurd (c_8.symm.trans c_12) (by decide) | exact absurd (c_10.symm.trans c_12) (by decide)))
            have hP9 : va_P (dC, dI) vwCl (wMD cL cI g0 gm gc gn cd (k_last w su mx cf nu ad ac md n pl).2 tb su mx cf nu r_9.1 r_9.2) H := (by rw [w9_0]; exact hP)
            have hD9 : va_D A (wMD cL cI g0 gm gc gn cd (k_last w su mx cf nu ad ac md n pl).2 tb su mx cf nu r_9.1 r_9.2) := (by rw [w9_0]; exact hD)
            exact W.lret (v := (k_target (k_at w pl) ad (nI n))) hx hb hr (fun t ht hW => ⟨⟨(k_target (k_at w pl) ad (nI n)), (r_9.1, r_9.2), rfl, (by first | rfl | (simp only [k_last, k_mark, m_marks, grants_eq hmd hac]; simp only [km2, eq_true c_3, c_6, c_8, c_10, eq_true c_12, hkm, b2i, decide_true, decide_false, Bool.not_true, Bool.not_false, Bool.and_true, Bool.and_false, Bool.true_and, Bool.false_and, Bool.or_true, Bool.or_false, Bool.true_or, Bool.false_or, reduceIte, or_true, true_or, or_false, false_or, and_true, true_and, and_false, false_and, not_true_eq_false, not_false_eq_true, Bool.false_eq_true, eq_self]; done) | (simp only [k_last, k_mark, m_marks, grants_eq hmd hac]; simp [km2, eq_true c_3, c_6, c_8, c_10, eq_true c_12, hkm]; done) | (simp only [k_last, k_mark, m_marks, grants_eq hmd hac]; simp only [km2, c_3, c_6, c_8, c_10, c_12, hkm, b2i, decide_true, decide_false, Bool.not_true, Bool.not_false, Bool.and_true, Bool.and_false, Bool.true_and, Bool.false_and, Bool.or_true, Bool.or_false, Bool.true_or, Bool.false_or, reduceIte, or_true, true_or, or_false, false_or, and_true, true_and, and_false, false_and, not_true_eq_false, not_false_eq_true, Bool.false_eq_true, eq_self]; done) | (simp only [k_last, k_mark, m_marks, grants_eq hmd hac]; simp [km2, c_3, c_6, c_8, c_10, c_12, hkm]; done) | (exfalso; first | exact absurd c_3 c_6 | exact absurd c_3 c_8 | exact absurd c_3 c_10 | exact absurd c_3 c_12 | exact absurd c_6 c_3 | exact absurd c_6 c_8 | exact absurd c_6 c_10 | exact absurd c_6 c_12 | exact absurd c_8 c_3 | exact absurd c_8 c_6 | exact absurd c_8 c_10 | exact absurd c_8 c_12 | exact absurd c_10 c_3 | exact absurd c_10 c_6 | exact absurd c_10 c_8 | exact absurd c_10 c_12 | exact absurd c_12 c_3 | exact absurd c_12 c_6 | exact absurd c_12 c_8 | exact absurd c_12 c_10 | exact absurd (c_3.symm.trans c_6) (by decide) | exact absurd (c_3.symm.trans c_8) (by decide) | exact absurd (c_3.symm.trans c_10) (by decide) | exact absurd (c_3.symm.trans c_12) (by decide) | exact absurd (c_6.symm.trans c_8) (by decide) | exact absurd (c_6.symm.trans c_10) (by decide) | exact absurd (c_6.symm.trans c_12) (by decide) | exact absurd (c_8.symm.trans c_10) (by decide) | exact absurd (c_8.symm.trans c_12) (by decide) | exact absurd (c_10.symm.trans c_12) (by decide))), (by rw [ht]; exact hP9), va_K.moved hW.alike hK, hD9⟩, hS.F ht⟩) hS.2.2 dX2_last_145
        · rw [b2i_z] at c_10
          refine lv_iload_n hx hb dX2_last_91 rfl (lv_at hl 4 rfl) ?_
          refine vp_callSl (W.runS (As := [.int ac]) (rest := []) ⟨hx, hb, hml, hown, hts⟩ (mtX2_accessFault l ac) (va_cwS 1 hts (gAll (mc1 (wa 473 (by decide +kernel) rfl) (mc1 (wa 474 (by decide +kernel) rfl) (mc1 (wa 17 (by decide +kernel) rfl) mc0))) (wa 475 (by decide +kernel) rfl) (by decide +kernel)) rfl rfl rfl (by decide +kernel) ⟨Nat.le_of_ble_eq_true rfl, Nat.le_of_ble_eq_true rfl⟩) preEq rfl rfl hl.1 rfl (lv_room (Nat.le_of_ble_eq_true rfl)) dX2_last_92 ⟨Nat.le_of_ble_eq_true rfl, Nat.le_of_ble_eq_true rfl⟩) (fun r_15 er_15 => ?_)
          have er_15 : r_15 = (k_accessFault ac) := er_15
          subst er_15
          have w9_0 : (k_last w su mx cf nu ad ac md n pl).2 = w := (by first | rfl | (simp only [k_last, k_mark, m_marks, grants_eq hmd hac]; simp only [km2, eq_true c_3, c_6, c_8, c_10, b2i, decide_true, decide_false, Bool.not_true, Bool.not_false, Bool.and_true, Bool.and_false, Bool.true_and, Bool.false_and, Bool.or_true, Bool.or_false, Bool.true_or, Bool.false_or, reduceIte, or_true, true_or, or_false, false_or, and_true, true_and, and_false, false_and, not_true_eq_false, not_false_eq_true, Bool.false_eq_true, eq_self]; done) | (simp only [k_last, k_mark, m_marks, grants_eq hmd hac]; simp [km2, eq_true c_3, c_6, c_8, c_10]; done) | (simp only [k_last, k_mark, m_marks, grants_eq hmd hac]; simp only [km2, c_3, c_6, c_8, c_10, b2i, decide_true, decide_false, Bool.not_true, Bool.not_false, Bool.and_true, Bool.and_false, Bool.true_and, Bool.false_and, Bool.or_true, Bool.or_false, Bool.true_or, Bool.false_or, reduceIte, or_true, true_or, or_false, false_or, and_true, true_and, and_false, false_and, not_true_eq_false, not_false_eq_true, Bool.false_eq_true, eq_self]; done) | (simp only [k_last, k_mark, m_marks, grants_eq hmd hac]; simp [km2, c_3, c_6, c_8, c_10]; done) | (exfalso; first | exact absurd c_3 c_6 | exact absurd c_3 c_8 | exact absurd c_3 c_10 | exact absurd c_6 c_3 | exact absurd c_6 c_8 | exact absurd c_6 c_10 | exact absurd c_8 c_3 | exact absurd c_8 c_6 | exact absurd c_8 c_10 | exact absurd c_10 c_3 | exact absurd c_10 c_6 | exact absurd c_10 c_8 | exact absurd (c_3.symm.trans c_6) (by decide) | exact absurd (c_3.symm.trans c_8) (by decide) | exact absurd (c_3.symm.trans c_10) (by decide) | exact absurd (c_6.symm.trans c_8) (by decide) | exact absurd (c_6.symm.trans c_10) (by decide) | exact absurd (c_8.symm.trans c_10) (by decide)))
          have hP9 : va_P (dC, dI) vwCl (wMD cL cI g0 gm gc gn cd (k_last w su mx cf nu ad ac md n pl).2 tb su mx cf nu r_9.1 r_9.2) H := (by rw [w9_0]; exact hP)
          have hD9 : va_D A (wMD cL cI g0 gm gc gn cd (k_last w su mx cf nu ad ac md n pl).2 tb su mx cf nu r_9.1 r_9.2) := (by rw [w9_0]; exact hD)
          exact W.lret (v := (k_accessFault ac)) hx hb hr (fun t ht hW => ⟨⟨(k_accessFault ac), (r_9.1, r_9.2), rfl, (by first | rfl | (simp only [k_last, k_mark, m_marks, grants_eq hmd hac]; simp only [km2, eq_true c_3, c_6, c_8, c_10, b2i, decide_true, decide_false, Bool.not_true, Bool.not_false, Bool.and_true, Bool.and_false, Bool.true_and, Bool.false_and, Bool.or_true, Bool.or_false, Bool.true_or, Bool.false_or, reduceIte, or_true, true_or, or_false, false_or, and_true, true_and, and_false, false_and, not_true_eq_false, not_false_eq_true, Bool.false_eq_true, eq_self]; done) | (simp only [k_last, k_mark, m_marks, grants_eq hmd hac]; simp [km2, eq_true c_3, c_6, c_8, c_10]; done) | (simp only [k_last, k_mark, m_marks, grants_eq hmd hac]; simp only [km2, c_3, c_6, c_8, c_10, b2i, decide_true, decide_false, Bool.not_true, Bool.not_false, Bool.and_true, Bool.and_false, Bool.true_and, Bool.false_and, Bool.or_true, Bool.or_false, Bool.true_or, Bool.false_or, reduceIte, or_true, true_or, or_false, false_or, and_true, true_and, and_false, false_and, not_true_eq_false, not_false_eq_true, Bool.false_eq_true, eq_self]; done) | (simp only [k_last, k_mark, m_marks, grants_eq hmd hac]; simp [km2, c_3, c_6, c_8, c_10]; done) | (exfalso; first | exact absurd c_3 c_6 | exact absurd c_3 c_8 | exact absurd c_3 c_10 | exact absurd c_6 c_3 | exact absurd c_6 c_8 | exact absurd c_6 c_10 | exact absurd c_8 c_3 | exact absurd c_8 c_6 | exact absurd c_8 c_10 | exact absurd c_10 c_3 | exact absurd c_10 c_6 | exact absurd c_10 c_8 | exact absurd (c_3.symm.trans c_6) (by decide) | exact absurd (c_3.symm.trans c_8) (by decide) | exact absurd (c_3.symm.trans c_10) (by decide) | exact absurd (c_6.symm.trans c_8) (by decide) | exact absurd (c_6.symm.trans c_10) (by decide) | exact absurd (c_8.symm.trans c_10) (by decide))), (by rw [ht]; exact hP9), va_K.moved hW.alike hK, hD9⟩, hS.F ht⟩) hS.2.2 dX2_last_95
      · rw [b2i_z] at c_8
        rw [Bool.not_eq_false] at c_8
        refine lv_iload_n hx hb dX2_last_63 rfl (lv_at hl 4 rfl) ?_
        refine lv_iconst (v := 2) hx hb dX2_last_64 (by decide) ?_
        refine lv_icmp_ne (tgt := 123) hx hb dX2_last_65 (by decide) (fun c_16 => ?_) (fun c_16 => ?_)
        · refine lv_ldc2 (v := 4096) hx hb hown (hts (.constantLong RX2 85 4096) (wa 457 (by decide +kernel) rfl)) dX2_last_123 ?_
          refine lv_lload hx hb dX2_last_126 (lv_at hl 1 rfl) ?_
          refine vp_callSl (W.runS (As := [.long (k_at w pl)]) (rest := [.long 4096]) ⟨hx, hb, hml, hown, hts⟩ (mtX2_numberIn l (k_at w pl)) (va_cwS 1 hts (gAll (mc1 (wa 501 (by decide +kernel) rfl) (mc1 (wa 502 (by decide +kernel) rfl) (mc1 (wa 17 (by decide +kernel) rfl) mc0))) (wa 503 (by decide +kernel) rfl) (by decide +kernel)) rfl rfl rfl (by decide +kernel) ⟨Nat.le_of_ble_eq_true rfl, Nat.le_of_ble_eq_true rfl⟩) preEq rfl rfl hl.1 rfl (lv_room (Nat.le_of_ble_eq_true rfl)) dX2_last_128 ⟨Nat.le_of_ble_eq_true rfl, Nat.le_of_ble_eq_true rfl⟩) (fun r_17 er_17 => ?_)
          have er_17 : r_17 = (k_pageNumber (k_at w pl)) := er_17
          subst er_17
          refine lv_lmul hx hb dX2_last_131 ?_
          refine lv_lload_n hx hb dX2_last_132 rfl (lv_at hl 3 rfl) ?_
          refine lv_ldc2 (v := 4096) hx hb hown (hts (.constantLong RX2 85 4096) (wa 457 (by decide +kernel) rfl)) dX2_last_133 ?_
          refine lv_lload hx hb dX2_last_136 (lv_at hl 0 rfl) ?_
          refine lv_lmul hx hb dX2_last_138 ?_
          refine lv_ldc2 (v := 4095) hx hb hown (hts (.constantLong RX2 83 4095) (wa 456 (by decide +kernel) rfl)) dX2_last_139 ?_
          refine lv_ladd hx hb dX2_last_142 ?_
          refine lv_land hx hb dX2_last_143 ?_
          refine lv_ladd hx hb dX2_last_144 ?_
          rw [target_eq hn3 c_3]
          have w9_0 : (k_last w su mx cf nu ad ac md n pl).2 = w := (by first | rfl | (simp only [k_last, k_mark, m_marks, grants_eq hmd hac]; simp only [km2, eq_true c_3, c_6, c_8, c_16, b2i, decide_true, decide_false, Bool.not_true, Bool.not_false, Bool.and_true, Bool.and_false, Bool.true_and, Bool.false_and, Bool.or_true, Bool.or_false, Bool.true_or, Bool.false_or, reduceIte, or_true, true_or, or_false, false_or, and_true, true_and, and_false, false_and, not_true_eq_false, not_false_eq_true, Bool.false_eq_true, eq_self]; done) | (simp only [k_last, k_mark, m_marks, grants_eq hmd hac]; simp [km2, eq_true c_3, c_6, c_8, c_16]; done) | (simp only [k_last, k_mark, m_marks, grants_eq hmd hac]; simp only [km2, c_3, c_6, c_8, c_16, b2i, decide_true, decide_false, Bool.not_true, Bool.not_false, Bool.and_true, Bool.and_false, Bool.true_and, Bool.false_and, Bool.or_true, Bool.or_false, Bool.true_or, Bool.false_or, reduceIte, or_true, true_or, or_false, false_or, and_true, true_and, and_false, false_and, not_true_eq_false, not_false_eq_true, Bool.false_eq_true, eq_self]; done) | (simp only [k_last, k_mark, m_marks, grants_eq hmd hac]; simp [km2, c_3, c_6, c_8, c_16]; done) | (exfalso; first | exact absurd c_3 c_6 | exact absurd c_3 c_8 | exact absurd c_3 c_16 | exact absurd c_6 c_3 | exact absurd c_6 c_8 | exact absurd c_6 c_16 | exact absurd c_8 c_3 | exact absurd c_8 c_6 | exact absurd c_8 c_16 | exact absurd c_16 c_3 | exact absurd c_16 c_6 | exact absurd c_16 c_8 | exact absurd (c_3.symm.trans c_6) (by decide) | exact absurd (c_3.symm.trans c_8) (by decide) | exact absurd (c_3.symm.trans c_16) (by decide) | exact absurd (c_6.symm.trans c_8) (by decide) | exact absurd (c_6.symm.trans c_16) (by decide) | exact absurd (c_8.symm.trans c_16) (by decide)))
          have hP9 : va_P (dC, dI) vwCl (wMD cL cI g0 gm gc gn cd (k_last w su mx cf nu ad ac md n pl).2 tb su mx cf nu fr tt) s.heap := (by rw [w9_0]; exact hP)
          have hD9 : va_D A (wMD cL cI g0 gm gc gn cd (k_last w su mx cf nu ad ac md n pl).2 tb su mx cf nu fr tt) := (by rw [w9_0]; exact hD)
          exact W.lret (v := (k_target (k_at w pl) ad (nI n))) hx hb hr (fun t ht hW => ⟨⟨(k_target (k_at w pl) ad (nI n)), (fr, tt), rfl, (by first | rfl | (simp only [k_last, k_mark, m_marks, grants_eq hmd hac]; simp only [km2, eq_true c_3, c_6, c_8, c_16, b2i, decide_true, decide_false, Bool.not_true, Bool.not_false, Bool.and_true, Bool.and_false, Bool.true_and, Bool.false_and, Bool.or_true, Bool.or_false, Bool.true_or, Bool.false_or, reduceIte, or_true, true_or, or_false, false_or, and_true, true_and, and_false, false_and, not_true_eq_false, not_false_eq_true, Bool.false_eq_true, eq_self]; done) | (simp only [k_last, k_mark, m_marks, grants_eq hmd hac]; simp [km2, eq_true c_3, c_6, c_8, c_16]; done) | (simp only [k_last, k_mark, m_marks, grants_eq hmd hac]; simp only [km2, c_3, c_6, c_8, c_16, b2i, decide_true, decide_false, Bool.not_true, Bool.not_false, Bool.and_true, Bool.and_false, Bool.true_and, Bool.false_and, Bool.or_true, Bool.or_false, Bool.true_or, Bool.false_or, reduceIte, or_true, true_or, or_false, false_or, and_true, true_and, and_false, false_and, not_true_eq_false, not_false_eq_true, Bool.false_eq_true, eq_self]; done) | (simp only [k_last, k_mark, m_marks, grants_eq hmd hac]; simp [km2, c_3, c_6, c_8, c_16]; done) | (exfalso; first | exact absurd c_3 c_6 | exact absurd c_3 c_8 | exact absurd c_3 c_16 | exact absurd c_6 c_3 | exact absurd c_6 c_8 | exact absurd c_6 c_16 | exact absurd c_8 c_3 | exact absurd c_8 c_6 | exact absurd c_8 c_16 | exact absurd c_16 c_3 | exact absurd c_16 c_6 | exact absurd c_16 c_8 | exact absurd (c_3.symm.trans c_6) (by decide) | exact absurd (c_3.symm.trans c_8) (by decide) | exact absurd (c_3.symm.trans c_16) (by decide) | exact absurd (c_6.symm.trans c_8) (by decide) | exact absurd (c_6.symm.trans c_16) (by decide) | exact absurd (c_8.symm.trans c_16) (by decide))), (by rw [ht]; exact hP9), va_K.moved hW.alike hK, hD9⟩, hS.F ht⟩) hS.2.2 dX2_last_145
        · refine lv_lload hx hb dX2_last_68 (lv_at hl 1 rfl) ?_
          refine lv_bipush (v := 7) hx hb dX2_last_70 (by decide) ?_
          refine vp_callSi (W.runS (As := [.long (k_at w pl), .int 7]) (rest := []) ⟨hx, hb, hml, hown, hts⟩ (mtX2_bit l (k_at w pl) 7) (va_cwS 2 hts (gAll (mc1 (wa 494 (by decide +kernel) rfl) (mc1 (wa 495 (by decide +kernel) rfl) (mc1 (wa 17 (by decide +kernel) rfl) mc0))) (wa 496 (by decide +kernel) rfl) (by decide +kernel)) rfl rfl rfl (by decide +kernel) ⟨Nat.le_of_ble_eq_true rfl, Nat.le_of_ble_eq_true rfl⟩) preEq rfl rfl hl.1 rfl (lv_room (Nat.le_of_ble_eq_true rfl)) dX2_last_72 ⟨Nat.le_of_ble_eq_true rfl, Nat.le_of_ble_eq_true rfl⟩) (fun r_18 er_18 => ?_)
          have er_18 : r_18 = (b2i (m_bit (k_at w pl) 7)) := er_18
          subst er_18
          refine lv_if_ne (tgt := 123) hx hb dX2_last_75 (by decide) (fun c_19 => ?_) (fun c_19 => ?_)
          · rw [b2i_z] at c_19
            rw [Bool.not_eq_false] at c_19
            refine lv_ldc2 (v := 4096) hx hb hown (hts (.constantLong RX2 85 4096) (wa 457 (by decide +kernel) rfl)) dX2_last_123 ?_
            refine lv_lload hx hb dX2_last_126 (lv_at hl 1 rfl) ?_
            refine vp_callSl (W.runS (As := [.long (k_at w pl)]) (rest := [.long 4096]) ⟨hx, hb, hml, hown, hts⟩ (mtX2_numberIn l (k_at w pl)) (va_cwS 1 hts (gAll (mc1 (wa 501 (by decide +kernel) rfl) (mc1 (wa 502 (by decide +kernel) rfl) (mc1 (wa 17 (by decide +kernel) rfl) mc0))) (wa 503 (by decide +kernel) rfl) (by decide +kernel)) rfl rfl rfl (by decide +kernel) ⟨Nat.le_of_ble_eq_true rfl, Nat.le_of_ble_eq_true rfl⟩) preEq rfl rfl hl.1 rfl (lv_room (Nat.le_of_ble_eq_true rfl)) dX2_last_128 ⟨Nat.le_of_ble_eq_true rfl, Nat.le_of_ble_eq_true rfl⟩) (fun r_20 er_20 => ?_)
            have er_20 : r_20 = (k_pageNumber (k_at w pl)) := er_20
            subst er_20
            refine lv_lmul hx hb dX2_last_131 ?_
            refine lv_lload_n hx hb dX2_last_132 rfl (lv_at hl 3 rfl) ?_
            refine lv_ldc2 (v := 4096) hx hb hown (hts (.constantLong RX2 85 4096) (wa 457 (by decide +kernel) rfl)) dX2_last_133 ?_
            refine lv_lload hx hb dX2_last_136 (lv_at hl 0 rfl) ?_
            refine lv_lmul hx hb dX2_last_138 ?_
            refine lv_ldc2 (v := 4095) hx hb hown (hts (.constantLong RX2 83 4095) (wa 456 (by decide +kernel) rfl)) dX2_last_139 ?_
            refine lv_ladd hx hb dX2_last_142 ?_
            refine lv_land hx hb dX2_last_143 ?_
            refine lv_ladd hx hb dX2_last_144 ?_
            rw [target_eq hn3 c_3]
            have w9_0 : (k_last w su mx cf nu ad ac md n pl).2 = w := (by first | rfl | (simp only [k_last, k_mark, m_marks, grants_eq hmd hac]; simp only [km2, eq_true c_3, c_6, c_8, eq_true c_16, c_19, b2i, decide_true, decide_false, Bool.not_true, Bool.not_false, Bool.and_true, Bool.and_false, Bool.true_and, Bool.false_and, Bool.or_true, Bool.or_false, Bool.true_or, Bool.false_or, reduceIte, or_true, true_or, or_false, false_or, and_true, true_and, and_false, false_and, not_true_eq_false, not_false_eq_true, Bool.false_eq_true, eq_self]; done) | (simp only [k_last, k_mark, m_marks, grants_eq hmd hac]; simp [km2, eq_true c_3, c_6, c_8, eq_true c_16, c_19]; done) | (simp only [k_last, k_mark, m_marks, grants_eq hmd hac]; simp only [km2, c_3, c_6, c_8, c_16, c_19, b2i, decide_true, decide_false, Bool.not_true, Bool.not_false, Bool.and_true, Bool.and_false, Bool.true_and, Bool.false_and, Bool.or_true, Bool.or_false, Bool.true_or, Bool.false_or, reduceIte, or_true, true_or, or_false, false_or, and_true, true_and, and_false, false_and, not_true_eq_false, not_false_eq_true, Bool.false_eq_true, eq_self]; done) | (simp only [k_last, k_mark, m_marks, grants_eq hmd hac]; simp [km2, c_3, c_6, c_8, c_16, c_19]; done) | (exfalso; first | exact absurd c_3 c_6 | exact absurd c_3 c_8 | exact absurd c_3 c_16 | exact absurd c_3 c_19 | exact absurd c_6 c_3 | exact absurd c_6 c_8 | exact absurd c_6 c_16 | exact absurd c_6 c_19 | exact absurd c_8 c_3 | exact absurd c_8 c_6 | exact absurd c_8 c_16 | exact absurd c_8 c_19 | exact absurd c_16 c_3 | exact absurd c_16 c_6 | exact absurd c_16 c_8 | exact absurd c_16 c_19 | exact absurd c_19 c_3 | exact absurd c_19 c_6 | exact absurd c_19 c_8 | exact absurd c_19 c_16 | exact absurd (c_3.symm.trans c_6) (by decide) | exact absurd (c_3.symm.trans c_8) (by decide) | exact absurd (c_3.symm.trans c_16) (by decide) | exact absurd (c_3.symm.trans c_19) (by decide) | exact absurd (c_6.symm.trans c_8) (by decide) | exact absurd (c_6.symm.trans c_16) (by decide) | exact absurd (c_6.symm.trans c_19) (by decide) | exact absurd (c_8.symm.trans c_16) (by decide) | exact absurd (c_8.symm.trans c_19) (by decide) | exact absurd (c_16.symm.trans c_19) (by decide)))
            have hP9 : va_P (dC, dI) vwCl (wMD cL cI g0 gm gc gn cd (k_last w su mx cf nu ad ac md n pl).2 tb su mx cf nu fr tt) s.heap := (by rw [w9_0]; exact hP)
            have hD9 : va_D A (wMD cL cI g0 gm gc gn cd (k_last w su mx cf nu ad ac md n pl).2 tb su mx cf nu fr tt) := (by rw [w9_0]; exact hD)
            exact W.lret (v := (k_target (k_at w pl) ad (nI n))) hx hb hr (fun t ht hW => ⟨⟨(k_target (k_at w pl) ad (nI n)), (fr, tt), rfl, (by first | rfl | (simp only [k_last, k_mark, m_marks, grants_eq hmd hac]; simp only [km2, eq_true c_3, c_6, c_8, eq_true c_16, c_19, b2i, decide_true, decide_false, Bool.not_true, Bool.not_false, Bool.and_true, Bool.and_false, Bool.true_and, Bool.false_and, Bool.or_true, Bool.or_false, Bool.true_or, Bool.false_or, reduceIte, or_true, true_or, or_false, false_or, and_true, true_and, and_false, false_and, not_true_eq_false, not_false_eq_true, Bool.false_eq_true, eq_self]; done) | (simp only [k_last, k_mark, m_marks, grants_eq hmd hac]; simp [km2, eq_true c_3, c_6, c_8, eq_true c_16, c_19]; done) | (simp only [k_last, k_mark, m_marks, grants_eq hmd hac]; simp only [km2, c_3, c_6, c_8, c_16, c_19, b2i, decide_true, decide_false, Bool.not_true, Bool.not_false, Bool.and_true, Bool.and_false, Bool.true_and, Bool.false_and, Bool.or_true, Bool.or_false, Bool.true_or, Bool.false_or, reduceIte, or_true, true_or, or_false, false_or, and_true, true_and, and_false, false_and, not_true_eq_false, not_false_eq_true, Bool.false_eq_true, eq_self]; done) | (simp only [k_last, k_mark, m_marks, grants_eq hmd hac]; simp [km2, c_3, c_6, c_8, c_16, c_19]; done) | (exfalso; first | exact absurd c_3 c_6 | exact absurd c_3 c_8 | exact absurd c_3 c_16 | exact absurd c_3 c_19 | exact absurd c_6 c_3 | exact absurd c_6 c_8 | exact absurd c_6 c_16 | exact absurd c_6 c_19 | exact absurd c_8 c_3 | exact absurd c_8 c_6 | exact absurd c_8 c_16 | exact absurd c_8 c_19 | exact absurd c_16 c_3 | exact absurd c_16 c_6 | exact absurd c_16 c_8 | exact absurd c_16 c_19 | exact absurd c_19 c_3 | exact absurd c_19 c_6 | exact absurd c_19 c_8 | exact absurd c_19 c_16 | exact absurd (c_3.symm.trans c_6) (by decide) | exact absurd (c_3.symm.trans c_8) (by decide) | exact absurd (c_3.symm.trans c_16) (by decide) | exact absurd (c_3.symm.trans c_19) (by decide) | exact absurd (c_6.symm.trans c_8) (by decide) | exact absurd (c_6.symm.trans c_16) (by decide) | exact absurd (c_6.symm.trans c_19) (by decide) | exact absurd (c_8.symm.trans c_16) (by decide) | exact absurd (c_8.symm.trans c_19) (by decide) | exact absurd (c_16.symm.trans c_19) (by decide))), (by rw [ht]; exact hP9), va_K.moved hW.alike hK, hD9⟩, hS.F ht⟩) hS.2.2 dX2_last_145
          · rw [b2i_z] at c_19
            refine lv_aload_n hx hb dX2_last_78 rfl (lv_at hl 2 rfl) ?_
            refine lv_lload hx hb dX2_last_79 (lv_at hl 6 rfl) ?_
            refine lv_iconst (v := 2) hx hb dX2_last_81 (by decide) ?_
            refine lv_iconst (v := 1) hx hb dX2_last_82 (by decide) ?_
            refine lv_bipush (v := 8) hx hb dX2_last_83 (by decide) ?_
            have hPc := hP.sub (ws' := (wMD cL cI g0 gm gc gn cd w tb su mx cf nu fr tt)) [0, 1, 2, 3] rfl
            have hDc := hD.sub (ws' := (wMD cL cI g0 gm gc gn cd w tb su mx cf nu fr tt)) [0, 1, 2, 3] (by decide) rfl
            have hFc := va_free (wc := (wMD cL cI g0 gm gc gn cd w tb su mx cf nu fr tt)) hD hS hA [0, 1, 2, 3] rfl
            refine va_calli (va_runV (As := [.long pl, .int 2, .int 1, .int 8]) (rest := []) ⟨hx, hb, hml, hown, hts⟩ (mtX2_isLet l dC dI cL cI g0 gm gc gn cd w tb su mx cf nu fr tt s.heap.size pl 2 1 8 (wi_addr hw) (Or.inr (Or.inr (Or.inr rfl))) (hn) (hc)) (cwV 4 hts (gAll (mc1 (wa 458 (by decide +kernel) rfl) (mc1 (wa 460 (by decide +kernel) rfl) (mc1 (wa 9 (by decide +kernel) rfl) (mc1 (wa 17 (by decide +kernel) rfl) mc0)))) (wa 461 (by decide +kernel) rfl) (by decide +kernel)) rfl rfl rfl (by decide +kernel) ⟨Nat.le_of_ble_eq_true rfl, Nat.le_of_ble_eq_true rfl⟩) (mu_pre (ci := 2) (q0 := 0) hK hPc hDc rfl rfl) rfl rfl hl.1 rfl (lv_room (Nat.le_of_ble_eq_true rfl)) dX2_last_85 ⟨Nat.le_of_ble_eq_true rfl, Nat.le_of_ble_eq_true rfl⟩) hS (fun q _ h => hFc q h) hFc (fun v_21 r_21 t H1 locs ht hvm hpo hB hz1 hk1 hS => ?_)
            obtain ⟨hP1, hK1, hD1⟩ := hB
            rw [ht] at hP1
            obtain ⟨hP, hD⟩ := va_join (wr := []) (w1 := (wMD cL cI g0 gm gc gn cd w tb su mx cf nu r_21.1 r_21.2)) hP hD [0, 1, 2, 3] [] rfl rfl (by decide) (by decide) hk1 hFc hP1 hD1
            generalize H1 = H at hP hS ⊢
            have hP : va_P (dC, dI) vwCl [(g0, .inr (2, [.int cd, .ref gm, .long tb, .int (b2i su), .int (b2i mx), .ref gc, .ref gn, .long r_21.1, .long r_21.2])), (gm, .inl (cL, 8192, .inr (.inl w))), (gc, .inl (cI, 8, .inl cf)), (gn, .inl (cL, 8, .inr (.inl nu)))] H := hP
            have hD : va_D A [(g0, .inr (2, [.int cd, .ref gm, .long tb, .int (b2i su), .int (b2i mx), .ref gc, .ref gn, .long r_21.1, .long r_21.2])), (gm, .inl (cL, 8192, .inr (.inl w))), (gc, .inl (cI, 8, .inl cf)), (gn, .inl (cL, 8, .inr (.inl nu)))] := hD
            have ev_21 : v_21 = (b2i (k_let cf nu pl 2 1 8)) := hpo
            subst ev_21
            refine lv_if_ne (tgt := 96) hx hb dX2_last_88 (by decide) (fun c_22 => ?_) (fun c_22 => ?_)
            · rw [b2i_z] at c_22
              rw [Bool.not_eq_false] at c_22
              refine lv_aload_n hx hb dX2_last_96 rfl (lv_at hl 2 rfl) ?_
              refine va_get (D := (dC, dI)) (ci := 2) (v := .ref gm) (C := RX2) (T := TX2) (N := 9) hx hb hts iwX2 hown hK hP 0 rfl rfl 1 (by decide) (hts (.fieldLink RX2 7 RX2 "memory" "[J") (wa 356 (by decide +kernel) rfl)) (fun _ h9 => h9) rfl dX2_last_97 ?_
              refine lv_lload hx hb dX2_last_100 (lv_at hl 6 rfl) ?_
              refine vp_callSi (W.runS (As := [.long pl]) (rest := [.ref gm]) ⟨hx, hb, hml, hown, hts⟩ (mtX2_cell l pl) (va_cwS 1 hts (gAll (mc1 (wa 397 (by decide +kernel) rfl) (mc1 (wa 398 (by decide +kernel) rfl) (mc1 (wa 17 (by decide +kernel) rfl) mc0))) (wa 399 (by decide +kernel) rfl) (by decide +kernel)) rfl rfl rfl (by decide +kernel) ⟨Nat.le_of_ble_eq_true rfl, Nat.le_of_ble_eq_true rfl⟩) preEq rfl rfl hl.1 rfl (lv_room (Nat.le_of_ble_eq_true rfl)) dX2_last_102 ⟨Nat.le_of_ble_eq_true rfl, Nat.le_of_ble_eq_true rfl⟩) (fun r_23 er_23 => ?_)
              have er_23 : r_23 = (m_cell pl) := er_23
              subst er_23
              rw [m_cell_eq hw]
              refine lv_lload hx hb dX2_last_105 (lv_at hl 1 rfl) ?_
              refine lv_iload_n hx hb dX2_last_107 rfl (lv_at hl 4 rfl) ?_
              refine lv_iconst (v := 2) hx hb dX2_last_108 (by decide) ?_
              refine lv_icmp_ne (tgt := 118) hx hb dX2_last_109 (by decide) (fun c_24 => ?_) (fun c_24 => ?_)
              · have hkm : k_marks ac = 64 := if_neg c_24
                refine lv_ldc2 (v := 64) hx hb hown (hts (.constantLong RX2 141 64) (wa 509 (by decide +kernel) rfl)) dX2_last_118 ?_
                refine lv_lor hx hb dX2_last_121 ?_
                refine va_last hx hb hK hP hD hS 1 0 rfl rfl (wi_in hw) dX2_last_122 (fun H locs hP hD hS => ?_)
                have hP : va_P (dC, dI) vwCl [(g0, .inr (2, [.int cd, .ref gm, .long tb, .int (b2i su), .int (b2i mx), .ref gc, .ref gn, .long r_21.1, .long r_21.2])), (gm, .inl (cL, 8192, .inr (.inl (vp_updL w (Int32.toNatClampNeg (k_wordIndex pl)) ((k_at w pl) ||| 64))))), (gc, .inl (cI, 8, .inl cf)), (gn, .inl (cL, 8, .inr (.inl nu)))] H := hP
                have hD : va_D A [(g0, .inr (2, [.int cd, .ref gm, .long tb, .int (b2i su), .int (b2i mx), .ref gc, .ref gn, .long r_21.1, .long r_21.2])), (gm, .inl (cL, 8192, .inr (.inl (vp_updL w (Int32.toNatClampNeg (k_wordIndex pl)) ((k_at w pl) ||| 64))))), (gc, .inl (cI, 8, .inl cf)), (gn, .inl (cL, 8, .inr (.inl nu)))] := hD
                refine lv_ldc2 (v := 4096) hx hb hown (hts (.constantLong RX2 85 4096) (wa 457 (by decide +kernel) rfl)) dX2_last_123 ?_
                refine lv_lload hx hb dX2_last_126 (lv_at hl 1 rfl) ?_
                refine vp_callSl (W.runS (As := [.long (k_at w pl)]) (rest := [.long 4096]) ⟨hx, hb, hml, hown, hts⟩ (mtX2_numberIn l (k_at w pl)) (va_cwS 1 hts (gAll (mc1 (wa 501 (by decide +kernel) rfl) (mc1 (wa 502 (by decide +kernel) rfl) (mc1 (wa 17 (by decide +kernel) rfl) mc0))) (wa 503 (by decide +kernel) rfl) (by decide +kernel)) rfl rfl rfl (by decide +kernel) ⟨Nat.le_of_ble_eq_true rfl, Nat.le_of_ble_eq_true rfl⟩) preEq rfl rfl hl.1 rfl (lv_room (Nat.le_of_ble_eq_true rfl)) dX2_last_128 ⟨Nat.le_of_ble_eq_true rfl, Nat.le_of_ble_eq_true rfl⟩) (fun r_25 er_25 => ?_)
                have er_25 : r_25 = (k_pageNumber (k_at w pl)) := er_25
                subst er_25
                refine lv_lmul hx hb dX2_last_131 ?_
                refine lv_lload_n hx hb dX2_last_132 rfl (lv_at hl 3 rfl) ?_
                refine lv_ldc2 (v := 4096) hx hb hown (hts (.constantLong RX2 85 4096) (wa 457 (by decide +kernel) rfl)) dX2_last_133 ?_
                refine lv_lload hx hb dX2_last_136 (lv_at hl 0 rfl) ?_
                refine lv_lmul hx hb dX2_last_138 ?_
                refine lv_ldc2 (v := 4095) hx hb hown (hts (.constantLong RX2 83 4095) (wa 456 (by decide +kernel) rfl)) dX2_last_139 ?_
                refine lv_ladd hx hb dX2_last_142 ?_
                refine lv_land hx hb dX2_last_143 ?_
                refine lv_ladd hx hb dX2_last_144 ?_
                rw [target_eq hn3 c_3]
                have w9_0 : (k_last w su mx cf nu ad ac md n pl).2 = (vp_updL w (Int32.toNatClampNeg (k_wordIndex pl)) ((k_at w pl) ||| 64)) := (by first | rfl | (simp only [k_last, k_mark, m_marks, grants_eq hmd hac]; simp only [km2, eq_true c_3, c_6, c_8, eq_true c_16, c_19, c_22, c_24, hkm, b2i, decide_true, decide_false, Bool.not_true, Bool.not_false, Bool.and_true, Bool.and_false, Bool.true_and, Bool.false_and, Bool.or_true, Bool.or_false, Bool.true_or, Bool.false_or, reduceIte, or_true, true_or, or_false, false_or, and_true, true_and, and_false, false_and, not_true_eq_false, not_false_eq_true, Bool.false_eq_true, eq_self]; done) | (simp only [k_last, k_mark, m_marks, grants_eq hmd hac]; simp [km2, eq_true c_3, c_6, c_8, eq_true c_16, c_19, c_22, c_24, hkm]; done) | (simp only [k_last, k_mark, m_marks, grants_eq hmd hac]; simp only [km2, c_3, c_6, c_8, c_16, c_19, c_22, c_24, hkm, b2i, decide_true, decide_false, Bool.not_true, Bool.not_false, Bool.and_true, Bool.and_false, Bool.true_and, Bool.false_and, Bool.or_true, Bool.or_false, Bool.true_or, Bool.false_or, reduceIte, or_true, true_or, or_false, false_or, and_true, true_and, and_false, false_and, not_true_eq_false, not_false_eq_true, Bool.false_eq_true, eq_self]; done) | (simp only [k_last, k_mark, m_marks, grants_eq hmd hac]; simp [km2, c_3, c_6, c_8, c_16, c_19, c_22, c_24, hkm]; done) | (exfalso; first | exact absurd c_3 c_6 | exact absurd c_3 c_8 | exact absurd c_3 c_16 | exact absurd c_3 c_19 | exact absurd c_3 c_22 | exact absurd c_3 c_24 | exact absurd c_6 c_3 | exact absurd c_6 c_8 | exact absurd c_6 c_16 | exact absurd c_6 c_19 | exact absurd c_6 c_22 | exact absurd c_6 c_24 | exact absurd c_8 c_3 | exact absurd c_8 c_6 | exact absurd c_8 c_16 | exact absurd c_8 c_19 | exact absurd c_8 c_22 | exact absurd c_8 c_24 | exact absurd c_16 c_3 | exact absurd c_16 c_6 | exact absurd c_16 c_8 | exact absurd c_16 c_19 | exact absurd c_16 c_22 | exact absurd c_16 c_24 | exact absurd c_19 c_3 | exact absurd c_19 c_6 | exact absurd c_19 c_8 | exact absurd c_19 c_16 | exact absurd c_19 c_22 | exact absurd c_19 c_24 | exact absurd c_22 c_3 | exact absurd c_22 c_6 | exact absurd c_22 c_8 | exact absurd c_22 c_16 | exact absurd c_22 c_19 | exact absurd c_22 c_24 | exact absurd c_24 c_3 | exact absurd c_24 c_6 | exact absurd c_24 c_8 | exact absurd c_24 c_16 | exact absurd c_24 c_19 | exact absurd c_24 c_22 | exact absurd (c_3.symm.trans c_6) (by decide) | exact absurd (c_3.symm.trans c_8) (by decide) | exact absurd (c_3.symm.trans c_16) (by decide) | exact absurd (c_3.symm.trans c_19) (by decide) | exact absurd (c_3.symm.trans c_22) (by decide) | exact absurd (c_3.symm.trans c_24) (by decide) | exact absurd (c_6.symm.trans c_8) (by decide) | exact absurd (c_6.symm.trans c_16) (by decide) | exact absurd (c_6.symm.trans c_19) (by decide) | exact absurd (c_6.symm.trans c_22) (by decide) | exact absurd (c_6.symm.trans c_24) (by decide) | exact absurd (c_8.symm.trans c_16) (by decide) | exact absurd (c_8.symm.trans c_19) (by decide) | exact absurd (c_8.symm.trans c_22) (by decide) | exact absurd (c_8.symm.trans c_24) (by decide) | exact absurd (c_16.symm.trans c_19) (by decide) | exact absurd (c_16.symm.trans c_22) (by decide) | exact absurd (c_16.symm.trans c_24) (by decide) | exact absurd (c_19.symm.trans c_22) (by decide) | exact absurd (c_19.symm.trans c_24) (by decide) | exact absurd (c_22.symm.trans c_24) (by decide)))
                have hP9 : va_P (dC, dI) vwCl (wMD cL cI g0 gm gc gn cd (k_last w su mx cf nu ad ac md n pl).2 tb su mx cf nu r_21.1 r_21.2) H := (by rw [w9_0]; exact hP)
                have hD9 : va_D A (wMD cL cI g0 gm gc gn cd (k_last w su mx cf nu ad ac md n pl).2 tb su mx cf nu r_21.1 r_21.2) := (by rw [w9_0]; exact hD)
                exact W.lret (v := (k_target (k_at w pl) ad (nI n))) hx hb hr (fun t ht hW => ⟨⟨(k_target (k_at w pl) ad (nI n)), (r_21.1, r_21.2), rfl, (by first | rfl | (simp only [k_last, k_mark, m_marks, grants_eq hmd hac]; simp only [km2, eq_true c_3, c_6, c_8, eq_true c_16, c_19, c_22, c_24, hkm, b2i, decide_true, decide_false, Bool.not_true, Bool.not_false, Bool.and_true, Bool.and_false, Bool.true_and, Bool.false_and, Bool.or_true, Bool.or_false, Bool.true_or, Bool.false_or, reduceIte, or_true, true_or, or_false, false_or, and_true, true_and, and_false, false_and, not_true_eq_false, not_false_eq_true, Bool.false_eq_true, eq_self]; done) | (simp only [k_last, k_mark, m_marks, grants_eq hmd hac]; simp [km2, eq_true c_3, c_6, c_8, eq_true c_16, c_19, c_22, c_24, hkm]; done) | (simp only [k_last, k_mark, m_marks, grants_eq hmd hac]; simp only [km2, c_3, c_6, c_8, c_16, c_19, c_22, c_24, hkm, b2i, decide_true, decide_false, Bool.not_true, Bool.not_false, Bool.and_true, Bool.and_false, Bool.true_and, Bool.false_and, Bool.or_true, Bool.or_false, Bool.true_or, Bool.false_or, reduceIte, or_true, true_or, or_false, false_or, and_true, true_and, and_false, false_and, not_true_eq_false, not_false_eq_true, Bool.false_eq_true, eq_self]; done) | (simp only [k_last, k_mark, m_marks, grants_eq hmd hac]; simp [km2, c_3, c_6, c_8, c_16, c_19, c_22, c_24, hkm]; done) | (exfalso; first | exact absurd c_3 c_6 | exact absurd c_3 c_8 | exact absurd c_3 c_16 | exact absurd c_3 c_19 | exact absurd c_3 c_22 | exact absurd c_3 c_24 | exact absurd c_6 c_3 | exact absurd c_6 c_8 | exact absurd c_6 c_16 | exact absurd c_6 c_19 | exact absurd c_6 c_22 | exact absurd c_6 c_24 | exact absurd c_8 c_3 | exact absurd c_8 c_6 | exact absurd c_8 c_16 | exact absurd c_8 c_19 | exact absurd c_8 c_22 | exact absurd c_8 c_24 | exact absurd c_16 c_3 | exact absurd c_16 c_6 | exact absurd c_16 c_8 | exact absurd c_16 c_19 | exact absurd c_16 c_22 | exact absurd c_16 c_24 | exact absurd c_19 c_3 | exact absurd c_19 c_6 | exact absurd c_19 c_8 | exact absurd c_19 c_16 | exact absurd c_19 c_22 | exact absurd c_19 c_24 | exact absurd c_22 c_3 | exact absurd c_22 c_6 | exact absurd c_22 c_8 | exact absurd c_22 c_16 | exact absurd c_22 c_19 | exact absurd c_22 c_24 | exact absurd c_24 c_3 | exact absurd c_24 c_6 | exact absurd c_24 c_8 | exact absurd c_24 c_16 | exact absurd c_24 c_19 | exact absurd c_24 c_22 | exact absurd (c_3.symm.trans c_6) (by decide) | exact absurd (c_3.symm.trans c_8) (by decide) | exact absurd (c_3.symm.trans c_16) (by decide) | exact absurd (c_3.symm.trans c_19) (by decide) | exact absurd (c_3.symm.trans c_22) (by decide) | exact absurd (c_3.symm.trans c_24) (by decide) | exact absurd (c_6.symm.trans c_8) (by decide) | exact absurd (c_6.symm.trans c_16) (by decide) | exact absurd (c_6.symm.trans c_19) (by decide) | exact absurd (c_6.symm.trans c_22) (by decide) | exact absurd (c_6.symm.trans c_24) (by decide) | exact absurd (c_8.symm.trans c_16) (by decide) | exact absurd (c_8.symm.trans c_19) (by decide) | exact absurd (c_8.symm.trans c_22) (by decide) | exact absurd (c_8.symm.trans c_24) (by decide) | exact absurd (c_16.symm.trans c_19) (by decide) | exact absurd (c_16.symm.trans c_22) (by decide) | exact absurd (c_16.symm.trans c_24) (by decide) | exact absurd (c_19.symm.trans c_22) (by decide) | exact absurd (c_19.symm.trans c_24) (by decide) | exact absurd (c_22.symm.trans c_24) (by decide))), (by rw [ht]; exact hP9), va_K.moved hW.alike hK, hD9⟩, hS.F ht⟩) hS.2.2 dX2_last_145
              · have hkm : k_marks ac = 192 := if_pos c_24
                refine lv_ldc2 (v := 192) hx hb hown (hts (.constantLong RX2 139 192) (wa 508 (by decide +kernel) rfl)) dX2_last_112 ?_
                refine lv_goto (tgt := 121) hx hb dX2_last_115 (by decide) ?_
                refine lv_lor hx hb dX2_last_121 ?_
                refine va_last hx hb hK hP hD hS 1 0 rfl rfl (wi_in hw) dX2_last_122 (fun H locs hP hD hS => ?_)
                have hP : va_P (dC, dI) vwCl [(g0, .inr (2, [.int cd, .ref gm, .long tb, .int (b2i su), .int (b2i mx), .ref gc, .ref gn, .long r_21.1, .long r_21.2])), (gm, .inl (cL, 8192, .inr (.inl (vp_updL w (Int32.toNatClampNeg (k_wordIndex pl)) ((k_at w pl) ||| 192))))), (gc, .inl (cI, 8, .inl cf)), (gn, .inl (cL, 8, .inr (.inl nu)))] H := hP
                have hD : va_D A [(g0, .inr (2, [.int cd, .ref gm, .long tb, .int (b2i su), .int (b2i mx), .ref gc, .ref gn, .long r_21.1, .long r_21.2])), (gm, .inl (cL, 8192, .inr (.inl (vp_updL w (Int32.toNatClampNeg (k_wordIndex pl)) ((k_at w pl) ||| 192))))), (gc, .inl (cI, 8, .inl cf)), (gn, .inl (cL, 8, .inr (.inl nu)))] := hD
                refine lv_ldc2 (v := 4096) hx hb hown (hts (.constantLong RX2 85 4096) (wa 457 (by decide +kernel) rfl)) dX2_last_123 ?_
                refine lv_lload hx hb dX2_last_126 (lv_at hl 1 rfl) ?_
                refine vp_callSl (W.runS (As := [.long (k_at w pl)]) (rest := [.long 4096]) ⟨hx, hb, hml, hown, hts⟩ (mtX2_numberIn l (k_at w pl)) (va_cwS 1 hts (gAll (mc1 (wa 501 (by decide +kernel) rfl) (mc1 (wa 502 (by decide +kernel) rfl) (mc1 (wa 17 (by decide +kernel) rfl) mc0))) (wa 503 (by decide +kernel) rfl) (by decide +kernel)) rfl rfl rfl (by decide +kernel) ⟨Nat.le_of_ble_eq_true rfl, Nat.le_of_ble_eq_true rfl⟩) preEq rfl rfl hl.1 rfl (lv_room (Nat.le_of_ble_eq_true rfl)) dX2_last_128 ⟨Nat.le_of_ble_eq_true rfl, Nat.le_of_ble_eq_true rfl⟩) (fun r_26 er_26 => ?_)
                have er_26 : r_26 = (k_pageNumber (k_at w pl)) := er_26
                subst er_26
                refine lv_lmul hx hb dX2_last_131 ?_
                refine lv_lload_n hx hb dX2_last_132 rfl (lv_at hl 3 rfl) ?_
                refine lv_ldc2 (v := 4096) hx hb hown (hts (.constantLong RX2 85 4096) (wa 457 (by decide +kernel) rfl)) dX2_last_133 ?_
                refine lv_lload hx hb dX2_last_136 (lv_at hl 0 rfl) ?_
                refine lv_lmul hx hb dX2_last_138 ?_
                refine lv_ldc2 (v := 4095) hx hb hown (hts (.constantLong RX2 83 4095) (wa 456 (by decide +kernel) rfl)) dX2_last_139 ?_
                refine lv_ladd hx hb dX2_last_142 ?_
                refine lv_land hx hb dX2_last_143 ?_
                refine lv_ladd hx hb dX2_last_144 ?_
                rw [target_eq hn3 c_3]
                have w9_0 : (k_last w su mx cf nu ad ac md n pl).2 = (vp_updL w (Int32.toNatClampNeg (k_wordIndex pl)) ((k_at w pl) ||| 192)) := (by first | rfl | (simp only [k_last, k_mark, m_marks, grants_eq hmd hac]; simp only [km2, eq_true c_3, c_6, c_8, eq_true c_16, c_19, c_22, eq_true c_24, hkm, b2i, decide_true, decide_false, Bool.not_true, Bool.not_false, Bool.and_true, Bool.and_false, Bool.true_and, Bool.false_and, Bool.or_true, Bool.or_false, Bool.true_or, Bool.false_or, reduceIte, or_true, true_or, or_false, false_or, and_true, true_and, and_false, false_and, not_true_eq_false, not_false_eq_true, Bool.false_eq_true, eq_self]; done) | (simp only [k_last, k_mark, m_marks, grants_eq hmd hac]; simp [km2, eq_true c_3, c_6, c_8, eq_true c_16, c_19, c_22, eq_true c_24, hkm]; done) | (simp only [k_last, k_mark, m_marks, grants_eq hmd hac]; simp only [km2, c_3, c_6, c_8, c_16, c_19, c_22, c_24, hkm, b2i, decide_true, decide_false, Bool.not_true, Bool.not_false, Bool.and_true, Bool.and_false, Bool.true_and, Bool.false_and, Bool.or_true, Bool.or_false, Bool.true_or, Bool.false_or, reduceIte, or_true, true_or, or_false, false_or, and_true, true_and, and_false, false_and, not_true_eq_false, not_false_eq_true, Bool.false_eq_true, eq_self]; done) | (simp only [k_last, k_mark, m_marks, grants_eq hmd hac]; simp [km2, c_3, c_6, c_8, c_16, c_19, c_22, c_24, hkm]; done) | (exfalso; first | exact absurd c_3 c_6 | exact absurd c_3 c_8 | exact absurd c_3 c_16 | exact absurd c_3 c_19 | exact absurd c_3 c_22 | exact absurd c_3 c_24 | exact absurd c_6 c_3 | exact absurd c_6 c_8 | exact absurd c_6 c_16 | exact absurd c_6 c_19 | exact absurd c_6 c_22 | exact absurd c_6 c_24 | exact absurd c_8 c_3 | exact absurd c_8 c_6 | exact absurd c_8 c_16 | exact absurd c_8 c_19 | exact absurd c_8 c_22 | exact absurd c_8 c_24 | exact absurd c_16 c_3 | exact absurd c_16 c_6 | exact absurd c_16 c_8 | exact absurd c_16 c_19 | exact absurd c_16 c_22 | exact absurd c_16 c_24 | exact absurd c_19 c_3 | exact absurd c_19 c_6 | exact absurd c_19 c_8 | exact absurd c_19 c_16 | exact absurd c_19 c_22 | exact absurd c_19 c_24 | exact absurd c_22 c_3 | exact absurd c_22 c_6 | exact absurd c_22 c_8 | exact absurd c_22 c_16 | exact absurd c_22 c_19 | exact absurd c_22 c_24 | exact absurd c_24 c_3 | exact absurd c_24 c_6 | exact absurd c_24 c_8 | exact absurd c_24 c_16 | exact absurd c_24 c_19 | exact absurd c_24 c_22 | exact absurd (c_3.symm.trans c_6) (by decide) | exact absurd (c_3.symm.trans c_8) (by decide) | exact absurd (c_3.symm.trans c_16) (by decide) | exact absurd (c_3.symm.trans c_19) (by decide) | exact absurd (c_3.symm.trans c_22) (by decide) | exact absurd (c_3.symm.trans c_24) (by decide) | exact absurd (c_6.symm.trans c_8) (by decide) | exact absurd (c_6.symm.trans c_16) (by decide) | exact absurd (c_6.symm.trans c_19) (by decide) | exact absurd (c_6.symm.trans c_22) (by decide) | exact absurd (c_6.symm.trans c_24) (by decide) | exact absurd (c_8.symm.trans c_16) (by decide) | exact absurd (c_8.symm.trans c_19) (by decide) | exact absurd (c_8.symm.trans c_22) (by decide) | exact absurd (c_8.symm.trans c_24) (by decide) | exact absurd (c_16.symm.trans c_19) (by decide) | exact absurd (c_16.symm.trans c_22) (by decide) | exact absurd (c_16.symm.trans c_24) (by decide) | exact absurd (c_19.symm.trans c_22) (by decide) | exact absurd (c_19.symm.trans c_24) (by decide) | exact absurd (c_22.symm.trans c_24) (by decide)))
                have hP9 : va_P (dC, dI) vwCl (wMD cL cI g0 gm gc gn cd (k_last w su mx cf nu ad ac md n pl).2 tb su mx cf nu r_21.1 r_21.2) H := (by rw [w9_0]; exact hP)
                have hD9 : va_D A (wMD cL cI g0 gm gc gn cd (k_last w su mx cf nu ad ac md n pl).2 tb su mx cf nu r_21.1 r_21.2) := (by rw [w9_0]; exact hD)
                exact W.lret (v := (k_target (k_at w pl) ad (nI n))) hx hb hr (fun t ht hW => ⟨⟨(k_target (k_at w pl) ad (nI n)), (r_21.1, r_21.2), rfl, (by first | rfl | (simp only [k_last, k_mark, m_marks, grants_eq hmd hac]; simp only [km2, eq_true c_3, c_6, c_8, eq_true c_16, c_19, c_22, eq_true c_24, hkm, b2i, decide_true, decide_false, Bool.not_true, Bool.not_false, Bool.and_true, Bool.and_false, Bool.true_and, Bool.false_and, Bool.or_true, Bool.or_false, Bool.true_or, Bool.false_or, reduceIte, or_true, true_or, or_false, false_or, and_true, true_and, and_false, false_and, not_true_eq_false, not_false_eq_true, Bool.false_eq_true, eq_self]; done) | (simp only [k_last, k_mark, m_marks, grants_eq hmd hac]; simp [km2, eq_true c_3, c_6, c_8, eq_true c_16, c_19, c_22, eq_true c_24, hkm]; done) | (simp only [k_last, k_mark, m_marks, grants_eq hmd hac]; simp only [km2, c_3, c_6, c_8, c_16, c_19, c_22, c_24, hkm, b2i, decide_true, decide_false, Bool.not_true, Bool.not_false, Bool.and_true, Bool.and_false, Bool.true_and, Bool.false_and, Bool.or_true, Bool.or_false, Bool.true_or, Bool.false_or, reduceIte, or_true, true_or, or_false, false_or, and_true, true_and, and_false, false_and, not_true_eq_false, not_false_eq_true, Bool.false_eq_true, eq_self]; done) | (simp only [k_last, k_mark, m_marks, grants_eq hmd hac]; simp [km2, c_3, c_6, c_8, c_16, c_19, c_22, c_24, hkm]; done) | (exfalso; first | exact absurd c_3 c_6 | exact absurd c_3 c_8 | exact absurd c_3 c_16 | exact absurd c_3 c_19 | exact absurd c_3 c_22 | exact absurd c_3 c_24 | exact absurd c_6 c_3 | exact absurd c_6 c_8 | exact absurd c_6 c_16 | exact absurd c_6 c_19 | exact absurd c_6 c_22 | exact absurd c_6 c_24 | exact absurd c_8 c_3 | exact absurd c_8 c_6 | exact absurd c_8 c_16 | exact absurd c_8 c_19 | exact absurd c_8 c_22 | exact absurd c_8 c_24 | exact absurd c_16 c_3 | exact absurd c_16 c_6 | exact absurd c_16 c_8 | exact absurd c_16 c_19 | exact absurd c_16 c_22 | exact absurd c_16 c_24 | exact absurd c_19 c_3 | exact absurd c_19 c_6 | exact absurd c_19 c_8 | exact absurd c_19 c_16 | exact absurd c_19 c_22 | exact absurd c_19 c_24 | exact absurd c_22 c_3 | exact absurd c_22 c_6 | exact absurd c_22 c_8 | exact absurd c_22 c_16 | exact absurd c_22 c_19 | exact absurd c_22 c_24 | exact absurd c_24 c_3 | exact absurd c_24 c_6 | exact absurd c_24 c_8 | exact absurd c_24 c_16 | exact absurd c_24 c_19 | exact absurd c_24 c_22 | exact absurd (c_3.symm.trans c_6) (by decide) | exact absurd (c_3.symm.trans c_8) (by decide) | exact absurd (c_3.symm.trans c_16) (by decide) | exact absurd (c_3.symm.trans c_19) (by decide) | exact absurd (c_3.symm.trans c_22) (by decide) | exact absurd (c_3.symm.trans c_24) (by decide) | exact absurd (c_6.symm.trans c_8) (by decide) | exact absurd (c_6.symm.trans c_16) (by decide) | exact absurd (c_6.symm.trans c_19) (by decide) | exact absurd (c_6.symm.trans c_22) (by decide) | exact absurd (c_6.symm.trans c_24) (by decide) | exact absurd (c_8.symm.trans c_16) (by decide) | exact absurd (c_8.symm.trans c_19) (by decide) | exact absurd (c_8.symm.trans c_22) (by decide) | exact absurd (c_8.symm.trans c_24) (by decide) | exact absurd (c_16.symm.trans c_19) (by decide) | exact absurd (c_16.symm.trans c_22) (by decide) | exact absurd (c_16.symm.trans c_24) (by decide) | exact absurd (c_19.symm.trans c_22) (by decide) | exact absurd (c_19.symm.trans c_24) (by decide) | exact absurd (c_22.symm.trans c_24) (by decide))), (by rw [ht]; exact hP9), va_K.moved hW.alike hK, hD9⟩, hS.F ht⟩) hS.2.2 dX2_last_145
            · rw [b2i_z] at c_22
              refine lv_iload_n hx hb dX2_last_91 rfl (lv_at hl 4 rfl) ?_
              refine vp_callSl (W.runS (As := [.int ac]) (rest := []) ⟨hx, hb, hml, hown, hts⟩ (mtX2_accessFault l ac) (va_cwS 1 hts (gAll (mc1 (wa 473 (by decide +kernel) rfl) (mc1 (wa 474 (by decide +kernel) rfl) (mc1 (wa 17 (by decide +kernel) rfl) mc0))) (wa 475 (by decide +kernel) rfl) (by decide +kernel)) rfl rfl rfl (by decide +kernel) ⟨Nat.le_of_ble_eq_true rfl, Nat.le_of_ble_eq_true rfl⟩) preEq rfl rfl hl.1 rfl (lv_room (Nat.le_of_ble_eq_true rfl)) dX2_last_92 ⟨Nat.le_of_ble_eq_true rfl, Nat.le_of_ble_eq_true rfl⟩) (fun r_27 er_27 => ?_)
              have er_27 : r_27 = (k_accessFault ac) := er_27
              subst er_27
              have w9_0 : (k_last w su mx cf nu ad ac md n pl).2 = w := (by first | rfl | (simp only [k_last, k_mark, m_marks, grants_eq hmd hac]; simp only [km2, eq_true c_3, c_6, c_8, eq_true c_16, c_19, c_22, b2i, decide_true, decide_false, Bool.not_true, Bool.not_false, Bool.and_true, Bool.and_false, Bool.true_and, Bool.false_and, Bool.or_true, Bool.or_false, Bool.true_or, Bool.false_or, reduceIte, or_true, true_or, or_false, false_or, and_true, true_and, and_false, false_and, not_true_eq_false, not_false_eq_true, Bool.false_eq_true, eq_self]; done) | (simp only [k_last, k_mark, m_marks, grants_eq hmd hac]; simp [km2, eq_true c_3, c_6, c_8, eq_true c_16, c_19, c_22]; done) | (simp only [k_last, k_mark, m_marks, grants_eq hmd hac]; simp only [km2, c_3, c_6, c_8, c_16, c_19, c_22, b2i, decide_true, decide_false, Bool.not_true, Bool.not_false, Bool.and_true, Bool.and_false, Bool.true_and, Bool.false_and, Bool.or_true, Bool.or_false, Bool.true_or, Bool.false_or, reduceIte, or_true, true_or, or_false, false_or, and_true, true_and, and_false, false_and, not_true_eq_false, not_false_eq_true, Bool.false_eq_true, eq_self]; done) | (simp only [k_last, k_mark, m_marks, grants_eq hmd hac]; simp [km2, c_3, c_6, c_8, c_16, c_19, c_22]; done) | (exfalso; first | exact absurd c_3 c_6 | exact absurd c_3 c_8 | exact absurd c_3 c_16 | exact absurd c_3 c_19 | exact absurd c_3 c_22 | exact absurd c_6 c_3 | exact absurd c_6 c_8 | exact absurd c_6 c_16 | exact absurd c_6 c_19 | exact absurd c_6 c_22 | exact absurd c_8 c_3 | exact absurd c_8 c_6 | exact absurd c_8 c_16 | exact absurd c_8 c_19 | exact absurd c_8 c_22 | exact absurd c_16 c_3 | exact absurd c_16 c_6 | exact absurd c_16 c_8 | exact absurd c_16 c_19 | exact absurd c_16 c_22 | exact absurd c_19 c_3 | exact absurd c_19 c_6 | exact absurd c_19 c_8 | exact absurd c_19 c_16 | exact absurd c_19 c_22 | exact absurd c_22 c_3 | exact absurd c_22 c_6 | exact absurd c_22 c_8 | exact absurd c_22 c_16 | exact absurd c_22 c_19 | exact absurd (c_3.symm.trans c_6) (by decide) | exact absurd (c_3.symm.trans c_8) (by decide) | exact absurd (c_3.symm.trans c_16) (by decide) | exact absurd (c_3.symm.trans c_19) (by decide) | exact absurd (c_3.symm.trans c_22) (by decide) | exact absurd (c_6.symm.trans c_8) (by decide) | exact absurd (c_6.symm.trans c_16) (by decide) | exact absurd (c_6.symm.trans c_19) (by decide) | exact absurd (c_6.symm.trans c_22) (by decide) | exact absurd (c_8.symm.trans c_16) (by decide) | exact absurd (c_8.symm.trans c_19) (by decide) | exact absurd (c_8.symm.trans c_22) (by decide) | exact absurd (c_16.symm.trans c_19) (by decide) | exact absurd (c_16.symm.trans c_22) (by decide) | exact absurd (c_19.symm.trans c_22) (by decide)))
              have hP9 : va_P (dC, dI) vwCl (wMD cL cI g0 gm gc gn cd (k_last w su mx cf nu ad ac md n pl).2 tb su mx cf nu r_21.1 r_21.2) H := (by rw [w9_0]; exact hP)
              have hD9 : va_D A (wMD cL cI g0 gm gc gn cd (k_last w su mx cf nu ad ac md n pl).2 tb su mx cf nu r_21.1 r_21.2) := (by rw [w9_0]; exact hD)
              exact W.lret (v := (k_accessFault ac)) hx hb hr (fun t ht hW => ⟨⟨(k_accessFault ac), (r_21.1, r_21.2), rfl, (by first | rfl | (simp only [k_last, k_mark, m_marks, grants_eq hmd hac]; simp only [km2, eq_true c_3, c_6, c_8, eq_true c_16, c_19, c_22, b2i, decide_true, decide_false, Bool.not_true, Bool.not_false, Bool.and_true, Bool.and_false, Bool.true_and, Bool.false_and, Bool.or_true, Bool.or_false, Bool.true_or, Bool.false_or, reduceIte, or_true, true_or, or_false, false_or, and_true, true_and, and_false, false_and, not_true_eq_false, not_false_eq_true, Bool.false_eq_true, eq_self]; done) | (simp only [k_last, k_mark, m_marks, grants_eq hmd hac]; simp [km2, eq_true c_3, c_6, c_8, eq_true c_16, c_19, c_22]; done) | (simp only [k_last, k_mark, m_marks, grants_eq hmd hac]; simp only [km2, c_3, c_6, c_8, c_16, c_19, c_22, b2i, decide_true, decide_false, Bool.not_true, Bool.not_false, Bool.and_true, Bool.and_false, Bool.true_and, Bool.false_and, Bool.or_true, Bool.or_false, Bool.true_or, Bool.false_or, reduceIte, or_true, true_or, or_false, false_or, and_true, true_and, and_false, false_and, not_true_eq_false, not_false_eq_true, Bool.false_eq_true, eq_self]; done) | (simp only [k_last, k_mark, m_marks, grants_eq hmd hac]; simp [km2, c_3, c_6, c_8, c_16, c_19, c_22]; done) | (exfalso; first | exact absurd c_3 c_6 | exact absurd c_3 c_8 | exact absurd c_3 c_16 | exact absurd c_3 c_19 | exact absurd c_3 c_22 | exact absurd c_6 c_3 | exact absurd c_6 c_8 | exact absurd c_6 c_16 | exact absurd c_6 c_19 | exact absurd c_6 c_22 | exact absurd c_8 c_3 | exact absurd c_8 c_6 | exact absurd c_8 c_16 | exact absurd c_8 c_19 | exact absurd c_8 c_22 | exact absurd c_16 c_3 | exact absurd c_16 c_6 | exact absurd c_16 c_8 | exact absurd c_16 c_19 | exact absurd c_16 c_22 | exact absurd c_19 c_3 | exact absurd c_19 c_6 | exact absurd c_19 c_8 | exact absurd c_19 c_16 | exact absurd c_19 c_22 | exact absurd c_22 c_3 | exact absurd c_22 c_6 | exact absurd c_22 c_8 | exact absurd c_22 c_16 | exact absurd c_22 c_19 | exact absurd (c_3.symm.trans c_6) (by decide) | exact absurd (c_3.symm.trans c_8) (by decide) | exact absurd (c_3.symm.trans c_16) (by decide) | exact absurd (c_3.symm.trans c_19) (by decide) | exact absurd (c_3.symm.trans c_22) (by decide) | exact absurd (c_6.symm.trans c_8) (by decide) | exact absurd (c_6.symm.trans c_16) (by decide) | exact absurd (c_6.symm.trans c_19) (by decide) | exact absurd (c_6.symm.trans c_22) (by decide) | exact absurd (c_8.symm.trans c_16) (by decide) | exact absurd (c_8.symm.trans c_19) (by decide) | exact absurd (c_8.symm.trans c_22) (by decide) | exact absurd (c_16.symm.trans c_19) (by decide) | exact absurd (c_16.symm.trans c_22) (by decide) | exact absurd (c_19.symm.trans c_22) (by decide))), (by rw [ht]; exact hP9), va_K.moved hW.alike hK, hD9⟩, hS.F ht⟩) hS.2.2 dX2_last_95
    · rw [b2i_z] at c_6
      rw [Bool.not_eq_false] at c_6
      refine lv_iload_n hx hb dX2_last_48 rfl (lv_at hl 4 rfl) ?_
      refine vp_callSl (W.runS (As := [.int ac]) (rest := []) ⟨hx, hb, hml, hown, hts⟩ (mtX2_pageFault l ac) (va_cwS 1 hts (gAll (mc1 (wa 483 (by decide +kernel) rfl) (mc1 (wa 484 (by decide +kernel) rfl) (mc1 (wa 17 (by decide +kernel) rfl) mc0))) (wa 485 (by decide +kernel) rfl) (by decide +kernel)) rfl rfl rfl (by decide +kernel) ⟨Nat.le_of_ble_eq_true rfl, Nat.le_of_ble_eq_true rfl⟩) preEq rfl rfl hl.1 rfl (lv_room (Nat.le_of_ble_eq_true rfl)) dX2_last_49 ⟨Nat.le_of_ble_eq_true rfl, Nat.le_of_ble_eq_true rfl⟩) (fun r_28 er_28 => ?_)
      have er_28 : r_28 = (k_pageFault ac) := er_28
      subst er_28
      have w9_0 : (k_last w su mx cf nu ad ac md n pl).2 = w := (by first | rfl | (simp only [k_last, k_mark, m_marks, grants_eq hmd hac]; simp only [km2, eq_true c_3, c_6, b2i, decide_true, decide_false, Bool.not_true, Bool.not_false, Bool.and_true, Bool.and_false, Bool.true_and, Bool.false_and, Bool.or_true, Bool.or_false, Bool.true_or, Bool.false_or, reduceIte, or_true, true_or, or_false, false_or, and_true, true_and, and_false, false_and, not_true_eq_false, not_false_eq_true, Bool.false_eq_true, eq_self]; done) | (simp only [k_last, k_mark, m_marks, grants_eq hmd hac]; simp [km2, eq_true c_3, c_6]; done) | (simp only [k_last, k_mark, m_marks, grants_eq hmd hac]; simp only [km2, c_3, c_6, b2i, decide_true, decide_false, Bool.not_true, Bool.not_false, Bool.and_true, Bool.and_false, Bool.true_and, Bool.false_and, Bool.or_true, Bool.or_false, Bool.true_or, Bool.false_or, reduceIte, or_true, true_or, or_false, false_or, and_true, true_and, and_false, false_and, not_true_eq_false, not_false_eq_true, Bool.false_eq_true, eq_self]; done) | (simp only [k_last, k_mark, m_marks, grants_eq hmd hac]; simp [km2, c_3, c_6]; done) | (exfalso; first | exact absurd c_3 c_6 | exact absurd c_6 c_3 | exact absurd (c_3.symm.trans c_6) (by decide)))
      have hP9 : va_P (dC, dI) vwCl (wMD cL cI g0 gm gc gn cd (k_last w su mx cf nu ad ac md n pl).2 tb su mx cf nu fr tt) s.heap := (by rw [w9_0]; exact hP)
      have hD9 : va_D A (wMD cL cI g0 gm gc gn cd (k_last w su mx cf nu ad ac md n pl).2 tb su mx cf nu fr tt) := (by rw [w9_0]; exact hD)
      exact W.lret (v := (k_pageFault ac)) hx hb hr (fun t ht hW => ⟨⟨(k_pageFault ac), (fr, tt), rfl, (by first | rfl | (simp only [k_last, k_mark, m_marks, grants_eq hmd hac]; simp only [km2, eq_true c_3, c_6, b2i, decide_true, decide_false, Bool.not_true, Bool.not_false, Bool.and_true, Bool.and_false, Bool.true_and, Bool.false_and, Bool.or_true, Bool.or_false, Bool.true_or, Bool.false_or, reduceIte, or_true, true_or, or_false, false_or, and_true, true_and, and_false, false_and, not_true_eq_false, not_false_eq_true, Bool.false_eq_true, eq_self]; done) | (simp only [k_last, k_mark, m_marks, grants_eq hmd hac]; simp [km2, eq_true c_3, c_6]; done) | (simp only [k_last, k_mark, m_marks, grants_eq hmd hac]; simp only [km2, c_3, c_6, b2i, decide_true, decide_false, Bool.not_true, Bool.not_false, Bool.and_true, Bool.and_false, Bool.true_and, Bool.false_and, Bool.or_true, Bool.or_false, Bool.true_or, Bool.false_or, reduceIte, or_true, true_or, or_false, false_or, and_true, true_and, and_false, false_and, not_true_eq_false, not_false_eq_true, Bool.false_eq_true, eq_self]; done) | (simp only [k_last, k_mark, m_marks, grants_eq hmd hac]; simp [km2, c_3, c_6]; done) | (exfalso; first | exact absurd c_3 c_6 | exact absurd c_6 c_3 | exact absurd (c_3.symm.trans c_6) (by decide))), (by rw [ht]; exact hP9), va_K.moved hW.alike hK, hD9⟩, hS.F ht⟩) hS.2.2 dX2_last_52
set_option maxHeartbeats 4000000 in
set_option maxRecDepth 100000 in
theorem mtX2_walk (l : Launch) (dC : Nat → ClassId) (dI : Nat → Nat → Nat) (cL : ClassId) (cI : ClassId) (g0 : Nat) (gm : Nat) (gc : Nat) (gn : Nat) (cd : Int32) (w : Nat → Int64) (tb : Int64) (su : Bool) (mx : Bool) (cf : Nat → Int32) (nu : Nat → Int64) (fr : Int64) (tt : Int64) (hz : Nat) (ad : Int64) (ac : Int32) (md : Int32) (hn : okN nu) (hc : okC cf) (hmd : md = 0 ∨ md = 1) (hac : ac = 0 ∨ ac = 1 ∨ ac = 2) : Met l yX2_walk wsX2_walk ({ frames := 4, cells := 0, slots := 0, locals := 108 }) (va_Pc [.ref g0, .long ad, .int ac, .int md] (fun U => U.heap.size = hz ∧ va_P (dC, dI) vwCl (wMD cL cI g0 gm gc gn cd w tb su mx cf nu fr tt) U.heap ∧ va_K (dC, dI) vwCl [(cL, .long), (cI, .int)] U ∧ va_D (fun _ => True) (wMD cL cI g0 gm gc gn cd w tb su mx cf nu fr tt))) (va_Ql (fun r (_ : Int64 × Int64) => r = (k_walk0 w tb su mx cf nu ad ac md).1) (fun u t => va_P (dC, dI) vwCl (wMD cL cI g0 gm gc gn cd (k_walk0 w tb su mx cf nu ad ac md).2 tb su mx cf nu u.1 u.2) t.heap ∧ va_K (dC, dI) vwCl [(cL, .long), (cI, .int)] t ∧ va_D (va_A (wMD cL cI g0 gm gc gn cd w tb su mx cf nu fr tt) hz) (wMD cL cI g0 gm gc gn cd (k_walk0 w tb su mx cf nu ad ac md).2 tb su mx cf nu u.1 u.2)) (va_A (wMD cL cI g0 gm gc gn cd w tb su mx cf nu fr tt) hz)) 0 0 (va_A (wMD cL cI g0 gm gc gn cd w tb su mx cf nu fr tt) hz) := by
  refine Met.ofW (cc := cX2_walk) (maxL := 15) (ret := (some .long)) (by decide) rfl ?_
  intro p e s m args below meth c s₁ B hml hv
  obtain ⟨rfl, hsz, hP, hK, hD0⟩ := hv
  have hx := B.exec
  have hb := B.bytes
  have hr := B.returns
  have hts := atoms_spec (ws := wsX2_walk) B.pre
  have hown : s.vm.findClass RX2 = some m.cls := findClass_of_methodNamed B.named
  have hlocks := B.notSynchronized
  subst hsz
  have hD := hD0.self (sz := s.heap.size)
  generalize hAe : va_A (wMD cL cI g0 gm gc gn cd w tb su mx cf nu fr tt) s.heap.size = A at hD ⊢
  have hA : ∀ q : Nat, s.heap.size ≤ q → A q := fun q h => by rw [← hAe]; exact Or.inr h
  have hS : va_S A s.heap s.heap [] := va_S.rf
  have hP : va_P (dC, dI) vwCl [(g0, .inr (2, [.int cd, .ref gm, .long tb, .int (b2i su), .int (b2i mx), .ref gc, .ref gn, .long fr, .long tt])), (gm, .inl (cL, 8192, .inr (.inl w))), (gc, .inl (cI, 8, .inl cf)), (gn, .inl (cL, 8, .inr (.inl nu)))] s.heap := hP
  have hD : va_D A [(g0, .inr (2, [.int cd, .ref gm, .long tb, .int (b2i su), .int (b2i mx), .ref gc, .ref gn, .long fr, .long tt])), (gm, .inl (cL, 8192, .inr (.inl w))), (gc, .inl (cI, 8, .inl cf)), (gn, .inl (cL, 8, .inr (.inl nu)))] := hD
  have hl := lv_entry ([.ref g0, .long ad, .int ac, .int md]) (n := 15) (Nat.le_of_ble_eq_true rfl)
  rw [lg_entry_eq]
  generalize (lg_sl ([.ref g0, .long ad, .int ac, .int md]) ++ List.replicate (15 - (lg_sl ([.ref g0, .long ad, .int ac, .int md])).length) Slot.unset).toArray = ls at hl ⊢
  have hl : lv_has ls 15 [(0, .ref g0), (1, .long ad), (3, .int ac), (4, .int md)] := hl
  have loop : ∀ (n : Nat) (pg : Int64) (ls : Array Slot) (H : Heap) (locs : List Loc) (fr tt : Int64), n ≤ 4 → k_walkF w su mx cf nu ad ac md n pg = k_walk0 w tb su mx cf nu ad ac md → va_P (dC, dI) vwCl (wMD cL cI g0 gm gc gn cd w tb su mx cf nu fr tt) H → va_D A (wMD cL cI g0 gm gc gn cd w tb su mx cf nu fr tt) → va_S A s.heap H locs → lv_has ls 15 [(0, .ref g0), (1, .long ad), (3, .int ac), (4, .int md), (8, .long pg), (10, .int (nI n - 1))] → W p l e (headSpec wsX2_walk ({ frames := 4, cells := 0, slots := 0, locals := 108 })).room s m (([.ref g0, .long ad, .int ac, .int md] : List Value).toArray) below meth c H locs 0 0 (MQ below (va_Ql (fun r (_ : Int64 × Int64) => r = (k_walk0 w tb su mx cf nu ad ac md).1) (fun u t => va_P (dC, dI) vwCl (wMD cL cI g0 gm gc gn cd (k_walk0 w tb su mx cf nu ad ac md).2 tb su mx cf nu u.1 u.2) t.heap ∧ va_K (dC, dI) vwCl [(cL, .long), (cI, .int)] t ∧ va_D A (wMD cL cI g0 gm gc gn cd (k_walk0 w tb su mx cf nu ad ac md).2 tb su mx cf nu u.1 u.2)) A) (([.ref g0, .long ad, .int ac, .int md] : List Value).toArray) s 0 0 A) (F0 m 70 ls []) := by
    intro n
    induction n with
    | zero =>
      intro pg ls H locs fr tt hn4 hq hP hD hS hl
      refine lv_iload hx hb dX2_walk_70 (lv_at hl 5 rfl) ?_
      refine lv_if_lt (tgt := 236) hx hb dX2_walk_72 (by decide) (fun c_1 => ?_) (fun c_1 => ?_)
      · refine lv_iload_n hx hb dX2_walk_236 rfl (lv_at hl 2 rfl) ?_
        refine vp_callSl (W.runS (As := [.int ac]) (rest := []) ⟨hx, hb, hml, hown, hts⟩ (mtX2_pageFault l ac) (va_cwS 1 hts (gAll (mc1 (wa 483 (by decide +kernel) rfl) (mc1 (wa 484 (by decide +kernel) rfl) (mc1 (wa 17 (by decide +kernel) rfl) mc0))) (wa 485 (by decide +kernel) rfl) (by decide +kernel)) rfl rfl rfl (by decide +kernel) ⟨Nat.le_of_ble_eq_true rfl, Nat.le_of_ble_eq_true rfl⟩) preEq rfl rfl hl.1 rfl (lv_room (Nat.le_of_ble_eq_true rfl)) dX2_walk_237 ⟨Nat.le_of_ble_eq_true rfl, Nat.le_of_ble_eq_true rfl⟩) (fun r_2 er_2 => ?_)
        have er_2 : r_2 = (k_pageFault ac) := er_2
        subst er_2
        have w9_0 : (k_walk0 w tb su mx cf nu ad ac md).2 = w := (by first | rfl | (rw [← hq]; simp only [k_walkF, mal_eq, last_eq, c_1, b2i, decide_true, decide_false, Bool.not_true, Bool.not_false, Bool.and_true, Bool.and_false, Bool.true_and, Bool.false_and, Bool.or_true, Bool.or_false, Bool.true_or, Bool.false_or, reduceIte, or_true, true_or, or_false, false_or, and_true, true_and, and_false, false_and, not_true_eq_false, not_false_eq_true, Bool.false_eq_true, eq_self]; done) | (rw [← hq]; simp [k_walkF, mal_eq, last_eq, c_1]; done))
        have hP9 : va_P (dC, dI) vwCl (wMD cL cI g0 gm gc gn cd (k_walk0 w tb su mx cf nu ad ac md).2 tb su mx cf nu fr tt) H := (by rw [w9_0]; exact hP)
        have hD9 : va_D A (wMD cL cI g0 gm gc gn cd (k_walk0 w tb su mx cf nu ad ac md).2 tb su mx cf nu fr tt) := (by rw [w9_0]; exact hD)
        exact W.lret (v := (k_pageFault ac)) hx hb hr (fun t ht hW => ⟨⟨(k_pageFault ac), (fr, tt), rfl, (by first | rfl | (rw [← hq]; simp only [k_walkF, mal_eq, last_eq, c_1, b2i, decide_true, decide_false, Bool.not_true, Bool.not_false, Bool.and_true, Bool.and_false, Bool.true_and, Bool.false_and, Bool.or_true, Bool.or_false, Bool.true_or, Bool.false_or, reduceIte, or_true, true_or, or_false, false_or, and_true, true_and, and_false, false_and, not_true_eq_false, not_false_eq_true, Bool.false_eq_true, eq_self]; done) | (rw [← hq]; simp [k_walkF, mal_eq, last_eq, c_1]; done)), (by rw [ht]; exact hP9), va_K.moved hW.alike hK, hD9⟩, hS.F ht⟩) hS.2.2 dX2_walk_240
      · exact absurd (by decide) c_1
    | succ n ih =>
      intro pg ls H locs fr tt hn4 hq hP hD hS hl
      rw [nI_pred] at hl
      refine lv_iload hx hb dX2_walk_70 (lv_at hl 5 rfl) ?_
      refine lv_if_lt (tgt := 236) hx hb dX2_walk_72 (by decide) (fun c_3 => ?_) (fun c_3 => ?_)
      · exact absurd c_3 (nI_pos (by omega))
      · refine lv_ldc2 (v := 4096) hx hb hown (hts (.constantLong RX2 85 4096) (wa 457 (by decide +kernel) rfl)) dX2_walk_75 ?_
        refine lv_lload hx hb dX2_walk_78 (lv_at hl 4 rfl) ?_
        refine lv_lmul hx hb dX2_walk_80 ?_
        refine lv_ldc2 (v := 8) hx hb hown (hts (.constantLong RX2 28 8) (wa 396 (by decide +kernel) rfl)) dX2_walk_81 ?_
        refine lv_lload_n hx hb dX2_walk_84 rfl (lv_at hl 1 rfl) ?_
        refine lv_bipush (v := 12) hx hb dX2_walk_85 (by decide) ?_
        refine lv_bipush (v := 9) hx hb dX2_walk_87 (by decide) ?_
        refine lv_iload hx hb dX2_walk_89 (lv_at hl 5 rfl) ?_
        refine lv_imul hx hb dX2_walk_91 ?_
        refine lv_iadd hx hb dX2_walk_92 ?_
        refine lv_lushr (v := (k_ush ad (12 + (9 * (nI n))))) hx hb dX2_walk_93 rfl ?_
        refine lv_ldc2 (v := 511) hx hb hown (hts (.constantLong RX2 120 511) (wa 490 (by decide +kernel) rfl)) dX2_walk_94 ?_
        refine lv_land hx hb dX2_walk_97 ?_
        refine lv_lmul hx hb dX2_walk_98 ?_
        refine lv_ladd hx hb dX2_walk_99 ?_
        rw [m_at pg ad (show n ≤ 3 by omega)]
        refine lv_lstore (lv' := [(11, .long (k_entryPlace pg ad (nI n))), (0, .ref g0), (1, .long ad), (3, .int ac), (4, .int md), (8, .long pg), (10, .int (nI n))]) hx hb dX2_walk_100 hl (by decide) rfl (fun ls hl => ?_)
        refine lv_lload hx hb dX2_walk_102 (lv_at hl 0 rfl) ?_
        refine vp_callSi (W.runS (As := [.long (k_entryPlace pg ad (nI n))]) (rest := []) ⟨hx, hb, hml, hown, hts⟩ (mtX2_isWord l (k_entryPlace pg ad (nI n))) (va_cwS 1 hts (gAll (mc1 (wa 391 (by decide +kernel) rfl) (mc1 (wa 392 (by decide +kernel) rfl) (mc1 (wa 17 (by decide +kernel) rfl) mc0))) (wa 393 (by decide +kernel) rfl) (by decide +kernel)) rfl rfl rfl (by decide +kernel) ⟨Nat.le_of_ble_eq_true rfl, Nat.le_of_ble_eq_true rfl⟩) preEq rfl rfl hl.1 rfl (lv_room (Nat.le_of_ble_eq_true rfl)) dX2_walk_104 ⟨Nat.le_of_ble_eq_true rfl, Nat.le_of_ble_eq_true rfl⟩) (fun r_4 er_4 => ?_)
        have er_4 : r_4 = (b2i (m_isWord (k_entryPlace pg ad (nI n)))) := er_4
        subst er_4
        refine lv_if_eq (tgt := 123) hx hb dX2_walk_107 (by decide) (fun c_5 => ?_) (fun c_5 => ?_)
        · rw [b2i_z] at c_5
          have hwi := m_word_f c_5
          refine lv_iload_n hx hb dX2_walk_123 rfl (lv_at hl 3 rfl) ?_
          refine vp_callSl (W.runS (As := [.int ac]) (rest := []) ⟨hx, hb, hml, hown, hts⟩ (mtX2_accessFault l ac) (va_cwS 1 hts (gAll (mc1 (wa 473 (by decide +kernel) rfl) (mc1 (wa 474 (by decide +kernel) rfl) (mc1 (wa 17 (by decide +kernel) rfl) mc0))) (wa 475 (by decide +kernel) rfl) (by decide +kernel)) rfl rfl rfl (by decide +kernel) ⟨Nat.le_of_ble_eq_true rfl, Nat.le_of_ble_eq_true rfl⟩) preEq rfl rfl hl.1 rfl (lv_room (Nat.le_of_ble_eq_true rfl)) dX2_walk_124 ⟨Nat.le_of_ble_eq_true rfl, Nat.le_of_ble_eq_true rfl⟩) (fun r_6 er_6 => ?_)
          have er_6 : r_6 = (k_accessFault ac) := er_6
          subst er_6
          have w9_0 : (k_walk0 w tb su mx cf nu ad ac md).2 = w := (by first | rfl | (rw [← hq]; simp only [k_walkF, mal_eq, last_eq, c_3, c_5, hwi, b2i, decide_true, decide_false, Bool.not_true, Bool.not_false, Bool.and_true, Bool.and_false, Bool.true_and, Bool.false_and, Bool.or_true, Bool.or_false, Bool.true_or, Bool.false_or, reduceIte, or_true, true_or, or_false, false_or, and_true, true_and, and_false, false_and, not_true_eq_false, not_false_eq_true, Bool.false_eq_true, eq_self]; done) | (rw [← hq]; simp [k_walkF, mal_eq, last_eq, c_3, c_5, hwi]; done))
          have hP9 : va_P (dC, dI) vwCl (wMD cL cI g0 gm gc gn cd (k_walk0 w tb su mx cf nu ad ac md).2 tb su mx cf nu fr tt) H := (by rw [w9_0]; exact hP)
          have hD9 : va_D A (wMD cL cI g0 gm gc gn cd (k_walk0 w tb su mx cf nu ad ac md).2 tb su mx cf nu fr tt) := (by rw [w9_0]; exact hD)
          exact W.lret (v := (k_accessFault ac)) hx hb hr (fun t ht hW => ⟨⟨(k_accessFault ac), (fr, tt), rfl, (by first | rfl | (rw [← hq]; simp only [k_walkF, mal_eq, last_eq, c_3, c_5, hwi, b2i, decide_true, decide_false, Bool.not_true, Bool.not_false, Bool.and_true, Bool.and_false, Bool.true_and, Bool.false_and, Bool.or_true, Bool.or_false, Bool.true_or, Bool.false_or, reduceIte, or_true, true_or, or_false, false_or, and_true, true_and, and_false, false_and, not_true_eq_false, not_false_eq_true, Bool.false_eq_true, eq_self]; done) | (rw [← hq]; simp [k_walkF, mal_eq, last_eq, c_3, c_5, hwi]; done)), (by rw [ht]; exact hP9), va_K.moved hW.alike hK, hD9⟩, hS.F ht⟩) hS.2.2 dX2_walk_127
        · rw [b2i_z] at c_5
          rw [Bool.not_eq_false] at c_5
          have hwi := m_word_t c_5
          refine lv_aload_n hx hb dX2_walk_110 rfl (lv_at hl 1 rfl) ?_
          refine lv_lload hx hb dX2_walk_111 (lv_at hl 0 rfl) ?_
          refine lv_iconst (v := 1) hx hb dX2_walk_113 (by decide) ?_
          refine lv_iconst (v := 1) hx hb dX2_walk_114 (by decide) ?_
          refine lv_bipush (v := 8) hx hb dX2_walk_115 (by decide) ?_
          have hPc := hP.sub (ws' := (wMD cL cI g0 gm gc gn cd w tb su mx cf nu fr tt)) [0, 1, 2, 3] rfl
          have hDc := hD.sub (ws' := (wMD cL cI g0 gm gc gn cd w tb su mx cf nu fr tt)) [0, 1, 2, 3] (by decide) rfl
          have hFc := va_free (wc := (wMD cL cI g0 gm gc gn cd w tb su mx cf nu fr tt)) hD hS hA [0, 1, 2, 3] rfl
          refine va_calli (va_runV (As := [.long (k_entryPlace pg ad (nI n)), .int 1, .int 1, .int 8]) (rest := []) ⟨hx, hb, hml, hown, hts⟩ (mtX2_isLet l dC dI cL cI g0 gm gc gn cd w tb su mx cf nu fr tt H.size (k_entryPlace pg ad (nI n)) 1 1 8 (wi_addr hwi) (Or.inr (Or.inr (Or.inr rfl))) (hn) (hc)) (cwV 4 hts (gAll (mc1 (wa 458 (by decide +kernel) rfl) (mc1 (wa 460 (by decide +kernel) rfl) (mc1 (wa 9 (by decide +kernel) rfl) (mc1 (wa 17 (by decide +kernel) rfl) mc0)))) (wa 461 (by decide +kernel) rfl) (by decide +kernel)) rfl rfl rfl (by decide +kernel) ⟨Nat.le_of_ble_eq_true rfl, Nat.le_of_ble_eq_true rfl⟩) (mu_pre (ci := 2) (q0 := 0) hK hPc hDc rfl rfl) rfl rfl hl.1 rfl (lv_room (Nat.le_of_ble_eq_true rfl)) dX2_walk_117 ⟨Nat.le_of_ble_eq_true rfl, Nat.le_of_ble_eq_true rfl⟩) hS (fun q _ h => hFc q h) hFc (fun v_7 r_7 t H1 locs ht hvm hpo hB hz1 hk1 hS => ?_)
          obtain ⟨hP1, hK1, hD1⟩ := hB
          rw [ht] at hP1
          obtain ⟨hP, hD⟩ := va_join (wr := []) (w1 := (wMD cL cI g0 gm gc gn cd w tb su mx cf nu r_7.1 r_7.2)) hP hD [0, 1, 2, 3] [] rfl rfl (by decide) (by decide) hk1 hFc hP1 hD1
          generalize H1 = H at hP hS ⊢
          have hP : va_P (dC, dI) vwCl [(g0, .inr (2, [.int cd, .ref gm, .long tb, .int (b2i su), .int (b2i mx), .ref gc, .ref gn, .long r_7.1, .long r_7.2])), (gm, .inl (cL, 8192, .inr (.inl w))), (gc, .inl (cI, 8, .inl cf)), (gn, .inl (cL, 8, .inr (.inl nu)))] H := hP
          have hD : va_D A [(g0, .inr (2, [.int cd, .ref gm, .long tb, .int (b2i su), .int (b2i mx), .ref gc, .ref gn, .long r_7.1, .long r_7.2])), (gm, .inl (cL, 8192, .inr (.inl w))), (gc, .inl (cI, 8, .inl cf)), (gn, .inl (cL, 8, .inr (.inl nu)))] := hD
          have ev_7 : v_7 = (b2i (k_let cf nu (k_entryPlace pg ad (nI n)) 1 1 8)) := hpo
          subst ev_7
          refine lv_if_ne (tgt := 128) hx hb dX2_walk_120 (by decide) (fun c_8 => ?_) (fun c_8 => ?_)
          · rw [b2i_z] at c_8
            rw [Bool.not_eq_false] at c_8
            refine lv_aload_n hx hb dX2_walk_128 rfl (lv_at hl 1 rfl) ?_
            refine va_get (D := (dC, dI)) (ci := 2) (v := .ref gm) (C := RX2) (T := TX2) (N := 9) hx hb hts iwX2 hown hK hP 0 rfl rfl 1 (by decide) (hts (.fieldLink RX2 7 RX2 "memory" "[J") (wa 356 (by decide +kernel) rfl)) (fun _ h9 => h9) rfl dX2_walk_129 ?_
            refine lv_lload hx hb dX2_walk_132 (lv_at hl 0 rfl) ?_
            refine vp_callSi (W.runS (As := [.long (k_entryPlace pg ad (nI n))]) (rest := [.ref gm]) ⟨hx, hb, hml, hown, hts⟩ (mtX2_cell l (k_entryPlace pg ad (nI n))) (va_cwS 1 hts (gAll (mc1 (wa 397 (by decide +kernel) rfl) (mc1 (wa 398 (by decide +kernel) rfl) (mc1 (wa 17 (by decide +kernel) rfl) mc0))) (wa 399 (by decide +kernel) rfl) (by decide +kernel)) rfl rfl rfl (by decide +kernel) ⟨Nat.le_of_ble_eq_true rfl, Nat.le_of_ble_eq_true rfl⟩) preEq rfl rfl hl.1 rfl (lv_room (Nat.le_of_ble_eq_true rfl)) dX2_walk_134 ⟨Nat.le_of_ble_eq_true rfl, Nat.le_of_ble_eq_true rfl⟩) (fun r_9 er_9 => ?_)
            have er_9 : r_9 = (m_cell (k_entryPlace pg ad (nI n))) := er_9
            subst er_9
            rw [m_cell_eq hwi]
            refine va_lald hx hb hK hP 1 0 rfl rfl (wi_in hwi) dX2_walk_137 ?_
            refine lv_lstore (lv' := [(13, .long (k_at w (k_entryPlace pg ad (nI n)))), (11, .long (k_entryPlace pg ad (nI n))), (0, .ref g0), (1, .long ad), (3, .int ac), (4, .int md), (8, .long pg), (10, .int (nI n))]) hx hb dX2_walk_138 hl (by decide) rfl (fun ls hl => ?_)
            refine lv_lload hx hb dX2_walk_140 (lv_at hl 0 rfl) ?_
            refine vp_callSi (W.runS (As := [.long (k_at w (k_entryPlace pg ad (nI n)))]) (rest := []) ⟨hx, hb, hml, hown, hts⟩ (mtX2_isBroken l (k_at w (k_entryPlace pg ad (nI n)))) (va_cwS 1 hts (gAll (mc1 (wa 491 (by decide +kernel) rfl) (mc1 (wa 492 (by decide +kernel) rfl) (mc1 (wa 17 (by decide +kernel) rfl) mc0))) (wa 493 (by decide +kernel) rfl) (by decide +kernel)) rfl rfl rfl (by decide +kernel) ⟨Nat.le_of_ble_eq_true rfl, Nat.le_of_ble_eq_true rfl⟩) preEq rfl rfl hl.1 rfl (lv_room (Nat.le_of_ble_eq_true rfl)) dX2_walk_142 ⟨Nat.le_of_ble_eq_true rfl, Nat.le_of_ble_eq_true rfl⟩) (fun r_10 er_10 => ?_)
            have er_10 : r_10 = (b2i (m_isBroken (k_at w (k_entryPlace pg ad (nI n))))) := er_10
            subst er_10
            refine lv_if_eq (tgt := 153) hx hb dX2_walk_145 (by decide) (fun c_11 => ?_) (fun c_11 => ?_)
            · rw [b2i_z] at c_11
              refine lv_lload hx hb dX2_walk_153 (lv_at hl 0 rfl) ?_
              refine lv_iconst (v := 1) hx hb dX2_walk_155 (by decide) ?_
              refine vp_callSi (W.runS (As := [.long (k_at w (k_entryPlace pg ad (nI n))), .int 1]) (rest := []) ⟨hx, hb, hml, hown, hts⟩ (mtX2_bit l (k_at w (k_entryPlace pg ad (nI n))) 1) (va_cwS 2 hts (gAll (mc1 (wa 494 (by decide +kernel) rfl) (mc1 (wa 495 (by decide +kernel) rfl) (mc1 (wa 17 (by decide +kernel) rfl) mc0))) (wa 496 (by decide +kernel) rfl) (by decide +kernel)) rfl rfl rfl (by decide +kernel) ⟨Nat.le_of_ble_eq_true rfl, Nat.le_of_ble_eq_true rfl⟩) preEq rfl rfl hl.1 rfl (lv_room (Nat.le_of_ble_eq_true rfl)) dX2_walk_156 ⟨Nat.le_of_ble_eq_true rfl, Nat.le_of_ble_eq_true rfl⟩) (fun r_12 er_12 => ?_)
              have er_12 : r_12 = (b2i (m_bit (k_at w (k_entryPlace pg ad (nI n))) 1)) := er_12
              subst er_12
              refine lv_if_ne (tgt := 171) hx hb dX2_walk_159 (by decide) (fun c_13 => ?_) (fun c_13 => ?_)
              · rw [b2i_z] at c_13
                rw [Bool.not_eq_false] at c_13
                refine lv_aload_n hx hb dX2_walk_171 rfl (lv_at hl 2 rfl) ?_
                refine lv_lload_n hx hb dX2_walk_172 rfl (lv_at hl 3 rfl) ?_
                refine lv_iload_n hx hb dX2_walk_173 rfl (lv_at hl 4 rfl) ?_
                refine lv_iload hx hb dX2_walk_174 (lv_at hl 5 rfl) ?_
                refine lv_lload hx hb dX2_walk_176 (lv_at hl 1 rfl) ?_
                refine lv_iload hx hb dX2_walk_178 (lv_at hl 7 rfl) ?_
                have hPc := hP.sub (ws' := (wMD cL cI g0 gm gc gn cd w tb su mx cf nu r_7.1 r_7.2)) [0, 1, 2, 3] rfl
                have hDc := hD.sub (ws' := (wMD cL cI g0 gm gc gn cd w tb su mx cf nu r_7.1 r_7.2)) [0, 1, 2, 3] (by decide) rfl
                have hFc := va_free (wc := (wMD cL cI g0 gm gc gn cd w tb su mx cf nu r_7.1 r_7.2)) hD hS hA [0, 1, 2, 3] rfl
                refine va_calll (va_runV (As := [.long ad, .int ac, .int md, .long (k_entryPlace pg ad (nI n)), .int (nI n)]) (rest := []) ⟨hx, hb, hml, hown, hts⟩ (mtX2_last l dC dI cL cI g0 gm gc gn cd w tb su mx cf nu r_7.1 r_7.2 H.size ad ac md (k_entryPlace pg ad (nI n)) n (hwi) (hn) (hc) (hmd) (hac) (by omega)) (cwV 5 hts (gAll (mc1 (wa 497 (by decide +kernel) rfl) (mc1 (wa 499 (by decide +kernel) rfl) (mc1 (wa 12 (by decide +kernel) rfl) (mc1 (wa 17 (by decide +kernel) rfl) mc0)))) (wa 500 (by decide +kernel) rfl) (by decide +kernel)) rfl rfl rfl (by decide +kernel) ⟨Nat.le_of_ble_eq_true rfl, Nat.le_of_ble_eq_true rfl⟩) (mu_pre (ci := 2) (q0 := 0) hK hPc hDc rfl rfl) rfl rfl hl.1 rfl (lv_room (Nat.le_of_ble_eq_true rfl)) dX2_walk_180 ⟨Nat.le_of_ble_eq_true rfl, Nat.le_of_ble_eq_true rfl⟩) hS (fun q _ h => hFc q h) hFc (fun v_14 r_14 t H1 locs ht hvm hpo hB hz1 hk1 hS => ?_)
                obtain ⟨hP1, hK1, hD1⟩ := hB
                rw [ht] at hP1
                obtain ⟨hP, hD⟩ := va_join (wr := []) (w1 := (wMD cL cI g0 gm gc gn cd (k_last w su mx cf nu ad ac md n (k_entryPlace pg ad (nI n))).2 tb su mx cf nu r_14.1 r_14.2)) hP hD [0, 1, 2, 3] [] rfl rfl (by decide) (by decide) hk1 hFc hP1 hD1
                generalize H1 = H at hP hS ⊢
                have hP : va_P (dC, dI) vwCl [(g0, .inr (2, [.int cd, .ref gm, .long tb, .int (b2i su), .int (b2i mx), .ref gc, .ref gn, .long r_14.1, .long r_14.2])), (gm, .inl (cL, 8192, .inr (.inl (k_last w su mx cf nu ad ac md n (k_entryPlace pg ad (nI n))).2))), (gc, .inl (cI, 8, .inl cf)), (gn, .inl (cL, 8, .inr (.inl nu)))] H := hP
                have hD : va_D A [(g0, .inr (2, [.int cd, .ref gm, .long tb, .int (b2i su), .int (b2i mx), .ref gc, .ref gn, .long r_14.1, .long r_14.2])), (gm, .inl (cL, 8192, .inr (.inl (k_last w su mx cf nu ad ac md n (k_entryPlace pg ad (nI n))).2))), (gc, .inl (cI, 8, .inl cf)), (gn, .inl (cL, 8, .inr (.inl nu)))] := hD
                have ev_14 : v_14 = (k_last w su mx cf nu ad ac md n (k_entryPlace pg ad (nI n))).1 := hpo
                subst ev_14
                have w9_0 : (k_walk0 w tb su mx cf nu ad ac md).2 = (k_last w su mx cf nu ad ac md n (k_entryPlace pg ad (nI n))).2 := (by first | rfl | (rw [← hq]; simp only [k_walkF, mal_eq, last_eq, c_3, c_5, hwi, c_8, c_11, c_13, b2i, decide_true, decide_false, Bool.not_true, Bool.not_false, Bool.and_true, Bool.and_false, Bool.true_and, Bool.false_and, Bool.or_true, Bool.or_false, Bool.true_or, Bool.false_or, reduceIte, or_true, true_or, or_false, false_or, and_true, true_and, and_false, false_and, not_true_eq_false, not_false_eq_true, Bool.false_eq_true, eq_self]; done) | (rw [← hq]; simp [k_walkF, mal_eq, last_eq, c_3, c_5, hwi, c_8, c_11, c_13]; done))
                have hP9 : va_P (dC, dI) vwCl (wMD cL cI g0 gm gc gn cd (k_walk0 w tb su mx cf nu ad ac md).2 tb su mx cf nu r_14.1 r_14.2) H := (by rw [w9_0]; exact hP)
                have hD9 : va_D A (wMD cL cI g0 gm gc gn cd (k_walk0 w tb su mx cf nu ad ac md).2 tb su mx cf nu r_14.1 r_14.2) := (by rw [w9_0]; exact hD)
                exact W.lret (v := (k_last w su mx cf nu ad ac md n (k_entryPlace pg ad (nI n))).1) hx hb hr (fun t ht hW => ⟨⟨(k_last w su mx cf nu ad ac md n (k_entryPlace pg ad (nI n))).1, (r_14.1, r_14.2), rfl, (by first | rfl | (rw [← hq]; simp only [k_walkF, mal_eq, last_eq, c_3, c_5, hwi, c_8, c_11, c_13, b2i, decide_true, decide_false, Bool.not_true, Bool.not_false, Bool.and_true, Bool.and_false, Bool.true_and, Bool.false_and, Bool.or_true, Bool.or_false, Bool.true_or, Bool.false_or, reduceIte, or_true, true_or, or_false, false_or, and_true, true_and, and_false, false_and, not_true_eq_false, not_false_eq_true, Bool.false_eq_true, eq_self]; done) | (rw [← hq]; simp [k_walkF, mal_eq, last_eq, c_3, c_5, hwi, c_8, c_11, c_13]; done)), (by rw [ht]; exact hP9), va_K.moved hW.alike hK, hD9⟩, hS.F ht⟩) hS.2.2 dX2_walk_183
              · rw [b2i_z] at c_13
                refine lv_lload hx hb dX2_walk_162 (lv_at hl 0 rfl) ?_
                refine lv_iconst (v := 3) hx hb dX2_walk_164 (by decide) ?_
                refine vp_callSi (W.runS (As := [.long (k_at w (k_entryPlace pg ad (nI n))), .int 3]) (rest := []) ⟨hx, hb, hml, hown, hts⟩ (mtX2_bit l (k_at w (k_entryPlace pg ad (nI n))) 3) (va_cwS 2 hts (gAll (mc1 (wa 494 (by decide +kernel) rfl) (mc1 (wa 495 (by decide +kernel) rfl) (mc1 (wa 17 (by decide +kernel) rfl) mc0))) (wa 496 (by decide +kernel) rfl) (by decide +kernel)) rfl rfl rfl (by decide +kernel) ⟨Nat.le_of_ble_eq_true rfl, Nat.le_of_ble_eq_true rfl⟩) preEq rfl rfl hl.1 rfl (lv_room (Nat.le_of_ble_eq_true rfl)) dX2_walk_165 ⟨Nat.le_of_ble_eq_true rfl, Nat.le_of_ble_eq_true rfl⟩) (fun r_15 er_15 => ?_)
                have er_15 : r_15 = (b2i (m_bit (k_at w (k_entryPlace pg ad (nI n))) 3)) := er_15
                subst er_15
                refine lv_if_eq (tgt := 184) hx hb dX2_walk_168 (by decide) (fun c_16 => ?_) (fun c_16 => ?_)
                · rw [b2i_z] at c_16
                  refine lv_iload hx hb dX2_walk_184 (lv_at hl 7 rfl) ?_
                  refine lv_if_eq (tgt := 218) hx hb dX2_walk_186 (by decide) (fun c_17 => ?_) (fun c_17 => ?_)
                  · have hw0 : ∀ pg, k_walkF w su mx cf nu ad ac md n pg = (k_pageFault ac, w) := by rw [i0_of (by omega) c_17]; exact fun _ => rfl
                    refine lv_iload_n hx hb dX2_walk_218 rfl (lv_at hl 4 rfl) ?_
                    refine vp_callSl (W.runS (As := [.int ac]) (rest := []) ⟨hx, hb, hml, hown, hts⟩ (mtX2_pageFault l ac) (va_cwS 1 hts (gAll (mc1 (wa 483 (by decide +kernel) rfl) (mc1 (wa 484 (by decide +kernel) rfl) (mc1 (wa 17 (by decide +kernel) rfl) mc0))) (wa 485 (by decide +kernel) rfl) (by decide +kernel)) rfl rfl rfl (by decide +kernel) ⟨Nat.le_of_ble_eq_true rfl, Nat.le_of_ble_eq_true rfl⟩) preEq rfl rfl hl.1 rfl (lv_room (Nat.le_of_ble_eq_true rfl)) dX2_walk_219 ⟨Nat.le_of_ble_eq_true rfl, Nat.le_of_ble_eq_true rfl⟩) (fun r_18 er_18 => ?_)
                    have er_18 : r_18 = (k_pageFault ac) := er_18
                    subst er_18
                    have w9_0 : (k_walk0 w tb su mx cf nu ad ac md).2 = w := (by first | rfl | (rw [← hq]; simp only [k_walkF, mal_eq, last_eq, c_3, c_5, hwi, c_8, c_11, c_13, c_16, eq_true c_17, hw0, b2i, decide_true, decide_false, Bool.not_true, Bool.not_false, Bool.and_true, Bool.and_false, Bool.true_and, Bool.false_and, Bool.or_true, Bool.or_false, Bool.true_or, Bool.false_or, reduceIte, or_true, true_or, or_false, false_or, and_true, true_and, and_false, false_and, not_true_eq_false, not_false_eq_true, Bool.false_eq_true, eq_self]; done) | (rw [← hq]; simp [k_walkF, mal_eq, last_eq, c_3, c_5, hwi, c_8, c_11, c_13, c_16, eq_true c_17, hw0]; done) | (rw [← hq]; simp only [k_walkF, mal_eq, last_eq, c_3, c_5, hwi, c_8, c_11, c_13, c_16, c_17, hw0, b2i, decide_true, decide_false, Bool.not_true, Bool.not_false, Bool.and_true, Bool.and_false, Bool.true_and, Bool.false_and, Bool.or_true, Bool.or_false, Bool.true_or, Bool.false_or, reduceIte, or_true, true_or, or_false, false_or, and_true, true_and, and_false, false_and, not_true_eq_false, not_false_eq_true, Bool.false_eq_true, eq_self]; done) | (rw [← hq]; simp [k_walkF, mal_eq, last_eq, c_3, c_5, hwi, c_8, c_11, c_13, c_16, c_17, hw0]; done))
                    have hP9 : va_P (dC, dI) vwCl (wMD cL cI g0 gm gc gn cd (k_walk0 w tb su mx cf nu ad ac md).2 tb su mx cf nu r_7.1 r_7.2) H := (by rw [w9_0]; exact hP)
                    have hD9 : va_D A (wMD cL cI g0 gm gc gn cd (k_walk0 w tb su mx cf nu ad ac md).2 tb su mx cf nu r_7.1 r_7.2) := (by rw [w9_0]; exact hD)
                    exact W.lret (v := (k_pageFault ac)) hx hb hr (fun t ht hW => ⟨⟨(k_pageFault ac), (r_7.1, r_7.2), rfl, (by first | rfl | (rw [← hq]; simp only [k_walkF, mal_eq, last_eq, c_3, c_5, hwi, c_8, c_11, c_13, c_16, eq_true c_17, hw0, b2i, decide_true, decide_false, Bool.not_true, Bool.not_false, Bool.and_true, Bool.and_false, Bool.true_and, Bool.false_and, Bool.or_true, Bool.or_false, Bool.true_or, Bool.false_or, reduceIte, or_true, true_or, or_false, false_or, and_true, true_and, and_false, false_and, not_true_eq_false, not_false_eq_true, Bool.false_eq_true, eq_self]; done) | (rw [← hq]; simp [k_walkF, mal_eq, last_eq, c_3, c_5, hwi, c_8, c_11, c_13, c_16, eq_true c_17, hw0]; done) | (rw [← hq]; simp only [k_walkF, mal_eq, last_eq, c_3, c_5, hwi, c_8, c_11, c_13, c_16, c_17, hw0, b2i, decide_true, decide_false, Bool.not_true, Bool.not_false, Bool.and_true, Bool.and_false, Bool.true_and, Bool.false_and, Bool.or_true, Bool.or_false, Bool.true_or, Bool.false_or, reduceIte, or_true, true_or, or_false, false_or, and_true, true_and, and_false, false_and, not_true_eq_false, not_false_eq_true, Bool.false_eq_true, eq_self]; done) | (rw [← hq]; simp [k_walkF, mal_eq, last_eq, c_3, c_5, hwi, c_8, c_11, c_13, c_16, c_17, hw0]; done)), (by rw [ht]; exact hP9), va_K.moved hW.alike hK, hD9⟩, hS.F ht⟩) hS.2.2 dX2_walk_222
                  · refine lv_lload hx hb dX2_walk_189 (lv_at hl 0 rfl) ?_
                    refine lv_iconst (v := 4) hx hb dX2_walk_191 (by decide) ?_
                    refine vp_callSi (W.runS (As := [.long (k_at w (k_entryPlace pg ad (nI n))), .int 4]) (rest := []) ⟨hx, hb, hml, hown, hts⟩ (mtX2_bit l (k_at w (k_entryPlace pg ad (nI n))) 4) (va_cwS 2 hts (gAll (mc1 (wa 494 (by decide +kernel) rfl) (mc1 (wa 495 (by decide +kernel) rfl) (mc1 (wa 17 (by decide +kernel) rfl) mc0))) (wa 496 (by decide +kernel) rfl) (by decide +kernel)) rfl rfl rfl (by decide +kernel) ⟨Nat.le_of_ble_eq_true rfl, Nat.le_of_ble_eq_true rfl⟩) preEq rfl rfl hl.1 rfl (lv_room (Nat.le_of_ble_eq_true rfl)) dX2_walk_192 ⟨Nat.le_of_ble_eq_true rfl, Nat.le_of_ble_eq_true rfl⟩) (fun r_19 er_19 => ?_)
                    have er_19 : r_19 = (b2i (m_bit (k_at w (k_entryPlace pg ad (nI n))) 4)) := er_19
                    subst er_19
                    refine lv_if_ne (tgt := 218) hx hb dX2_walk_195 (by decide) (fun c_20 => ?_) (fun c_20 => ?_)
                    · rw [b2i_z] at c_20
                      rw [Bool.not_eq_false] at c_20
                      refine lv_iload_n hx hb dX2_walk_218 rfl (lv_at hl 4 rfl) ?_
                      refine vp_callSl (W.runS (As := [.int ac]) (rest := []) ⟨hx, hb, hml, hown, hts⟩ (mtX2_pageFault l ac) (va_cwS 1 hts (gAll (mc1 (wa 483 (by decide +kernel) rfl) (mc1 (wa 484 (by decide +kernel) rfl) (mc1 (wa 17 (by decide +kernel) rfl) mc0))) (wa 485 (by decide +kernel) rfl) (by decide +kernel)) rfl rfl rfl (by decide +kernel) ⟨Nat.le_of_ble_eq_true rfl, Nat.le_of_ble_eq_true rfl⟩) preEq rfl rfl hl.1 rfl (lv_room (Nat.le_of_ble_eq_true rfl)) dX2_walk_219 ⟨Nat.le_of_ble_eq_true rfl, Nat.le_of_ble_eq_true rfl⟩) (fun r_21 er_21 => ?_)
                      have er_21 : r_21 = (k_pageFault ac) := er_21
                      subst er_21
                      have w9_0 : (k_walk0 w tb su mx cf nu ad ac md).2 = w := (by first | rfl | (rw [← hq]; simp only [k_walkF, mal_eq, last_eq, c_3, c_5, hwi, c_8, c_11, c_13, c_16, c_17, c_20, b2i, decide_true, decide_false, Bool.not_true, Bool.not_false, Bool.and_true, Bool.and_false, Bool.true_and, Bool.false_and, Bool.or_true, Bool.or_false, Bool.true_or, Bool.false_or, reduceIte, or_true, true_or, or_false, false_or, and_true, true_and, and_false, false_and, not_true_eq_false, not_false_eq_true, Bool.false_eq_true, eq_self]; done) | (rw [← hq]; simp [k_walkF, mal_eq, last_eq, c_3, c_5, hwi, c_8, c_11, c_13, c_16, c_17, c_20]; done))
                      have hP9 : va_P (dC, dI) vwCl (wMD cL cI g0 gm gc gn cd (k_walk0 w tb su mx cf nu ad ac md).2 tb su mx cf nu r_7.1 r_7.2) H := (by rw [w9_0]; exact hP)
                      have hD9 : va_D A (wMD cL cI g0 gm gc gn cd (k_walk0 w tb su mx cf nu ad ac md).2 tb su mx cf nu r_7.1 r_7.2) := (by rw [w9_0]; exact hD)
                      exact W.lret (v := (k_pageFault ac)) hx hb hr (fun t ht hW => ⟨⟨(k_pageFault ac), (r_7.1, r_7.2), rfl, (by first | rfl | (rw [← hq]; simp only [k_walkF, mal_eq, last_eq, c_3, c_5, hwi, c_8, c_11, c_13, c_16, c_17, c_20, b2i, decide_true, decide_false, Bool.not_true, Bool.not_false, Bool.and_true, Bool.and_false, Bool.true_and, Bool.false_and, Bool.or_true, Bool.or_false, Bool.true_or, Bool.false_or, reduceIte, or_true, true_or, or_false, false_or, and_true, true_and, and_false, false_and, not_true_eq_false, not_false_eq_true, Bool.false_eq_true, eq_self]; done) | (rw [← hq]; simp [k_walkF, mal_eq, last_eq, c_3, c_5, hwi, c_8, c_11, c_13, c_16, c_17, c_20]; done)), (by rw [ht]; exact hP9), va_K.moved hW.alike hK, hD9⟩, hS.F ht⟩) hS.2.2 dX2_walk_222
                    · rw [b2i_z] at c_20
                      refine lv_lload hx hb dX2_walk_198 (lv_at hl 0 rfl) ?_
                      refine lv_bipush (v := 6) hx hb dX2_walk_200 (by decide) ?_
                      refine vp_callSi (W.runS (As := [.long (k_at w (k_entryPlace pg ad (nI n))), .int 6]) (rest := []) ⟨hx, hb, hml, hown, hts⟩ (mtX2_bit l (k_at w (k_entryPlace pg ad (nI n))) 6) (va_cwS 2 hts (gAll (mc1 (wa 494 (by decide +kernel) rfl) (mc1 (wa 495 (by decide +kernel) rfl) (mc1 (wa 17 (by decide +kernel) rfl) mc0))) (wa 496 (by decide +kernel) rfl) (by decide +kernel)) rfl rfl rfl (by decide +kernel) ⟨Nat.le_of_ble_eq_true rfl, Nat.le_of_ble_eq_true rfl⟩) preEq rfl rfl hl.1 rfl (lv_room (Nat.le_of_ble_eq_true rfl)) dX2_walk_202 ⟨Nat.le_of_ble_eq_true rfl, Nat.le_of_ble_eq_true rfl⟩) (fun r_22 er_22 => ?_)
                      have er_22 : r_22 = (b2i (m_bit (k_at w (k_entryPlace pg ad (nI n))) 6)) := er_22
                      subst er_22
                      refine lv_if_ne (tgt := 218) hx hb dX2_walk_205 (by decide) (fun c_23 => ?_) (fun c_23 => ?_)
                      · rw [b2i_z] at c_23
                        rw [Bool.not_eq_false] at c_23
                        refine lv_iload_n hx hb dX2_walk_218 rfl (lv_at hl 4 rfl) ?_
                        refine vp_callSl (W.runS (As := [.int ac]) (rest := []) ⟨hx, hb, hml, hown, hts⟩ (mtX2_pageFault l ac) (va_cwS 1 hts (gAll (mc1 (wa 483 (by decide +kernel) rfl) (mc1 (wa 484 (by decide +kernel) rfl) (mc1 (wa 17 (by decide +kernel) rfl) mc0))) (wa 485 (by decide +kernel) rfl) (by decide +kernel)) rfl rfl rfl (by decide +kernel) ⟨Nat.le_of_ble_eq_true rfl, Nat.le_of_ble_eq_true rfl⟩) preEq rfl rfl hl.1 rfl (lv_room (Nat.le_of_ble_eq_true rfl)) dX2_walk_219 ⟨Nat.le_of_ble_eq_true rfl, Nat.le_of_ble_eq_true rfl⟩) (fun r_24 er_24 => ?_)
                        have er_24 : r_24 = (k_pageFault ac) := er_24
                        subst er_24
                        have w9_0 : (k_walk0 w tb su mx cf nu ad ac md).2 = w := (by first | rfl | (rw [← hq]; simp only [k_walkF, mal_eq, last_eq, c_3, c_5, hwi, c_8, c_11, c_13, c_16, c_17, c_20, c_23, b2i, decide_true, decide_false, Bool.not_true, Bool.not_false, Bool.and_true, Bool.and_false, Bool.true_and, Bool.false_and, Bool.or_true, Bool.or_false, Bool.true_or, Bool.false_or, reduceIte, or_true, true_or, or_false, false_or, and_true, true_and, and_false, false_and, not_true_eq_false, not_false_eq_true, Bool.false_eq_true, eq_self]; done) | (rw [← hq]; simp [k_walkF, mal_eq, last_eq, c_3, c_5, hwi, c_8, c_11, c_13, c_16, c_17, c_20, c_23]; done))
                        have hP9 : va_P (dC, dI) vwCl (wMD cL cI g0 gm gc gn cd (k_walk0 w tb su mx cf nu ad ac md).2 tb su mx cf nu r_7.1 r_7.2) H := (by rw [w9_0]; exact hP)
                        have hD9 : va_D A (wMD cL cI g0 gm gc gn cd (k_walk0 w tb su mx cf nu ad ac md).2 tb su mx cf nu r_7.1 r_7.2) := (by rw [w9_0]; exact hD)
                        exact W.lret (v := (k_pageFault ac)) hx hb hr (fun t ht hW => ⟨⟨(k_pageFault ac), (r_7.1, r_7.2), rfl, (by first | rfl | (rw [← hq]; simp only [k_walkF, mal_eq, last_eq, c_3, c_5, hwi, c_8, c_11, c_13, c_16, c_17, c_20, c_23, b2i, decide_true, decide_false, Bool.not_true, Bool.not_false, Bool.and_true, Bool.and_false, Bool.true_and, Bool.false_and, Bool.or_true, Bool.or_false, Bool.true_or, Bool.false_or, reduceIte, or_true, true_or, or_false, false_or, and_true, true_and, and_false, false_and, not_true_eq_false, not_false_eq_true, Bool.false_eq_true, eq_self]; done) | (rw [← hq]; simp [k_walkF, mal_eq, last_eq, c_3, c_5, hwi, c_8, c_11, c_13, c_16, c_17, c_20, c_23]; done)), (by rw [ht]; exact hP9), va_K.moved hW.alike hK, hD9⟩, hS.F ht⟩) hS.2.2 dX2_walk_222
                      · rw [b2i_z] at c_23
                        refine lv_lload hx hb dX2_walk_208 (lv_at hl 0 rfl) ?_
                        refine lv_bipush (v := 7) hx hb dX2_walk_210 (by decide) ?_
                        refine vp_callSi (W.runS (As := [.long (k_at w (k_entryPlace pg ad (nI n))), .int 7]) (rest := []) ⟨hx, hb, hml, hown, hts⟩ (mtX2_bit l (k_at w (k_entryPlace pg ad (nI n))) 7) (va_cwS 2 hts (gAll (mc1 (wa 494 (by decide +kernel) rfl) (mc1 (wa 495 (by decide +kernel) rfl) (mc1 (wa 17 (by decide +kernel) rfl) mc0))) (wa 496 (by decide +kernel) rfl) (by decide +kernel)) rfl rfl rfl (by decide +kernel) ⟨Nat.le_of_ble_eq_true rfl, Nat.le_of_ble_eq_true rfl⟩) preEq rfl rfl hl.1 rfl (lv_room (Nat.le_of_ble_eq_true rfl)) dX2_walk_212 ⟨Nat.le_of_ble_eq_true rfl, Nat.le_of_ble_eq_true rfl⟩) (fun r_25 er_25 => ?_)
                        have er_25 : r_25 = (b2i (m_bit (k_at w (k_entryPlace pg ad (nI n))) 7)) := er_25
                        subst er_25
                        refine lv_if_eq (tgt := 223) hx hb dX2_walk_215 (by decide) (fun c_26 => ?_) (fun c_26 => ?_)
                        · rw [b2i_z] at c_26
                          refine lv_lload hx hb dX2_walk_223 (lv_at hl 0 rfl) ?_
                          refine vp_callSl (W.runS (As := [.long (k_at w (k_entryPlace pg ad (nI n)))]) (rest := []) ⟨hx, hb, hml, hown, hts⟩ (mtX2_numberIn l (k_at w (k_entryPlace pg ad (nI n)))) (va_cwS 1 hts (gAll (mc1 (wa 501 (by decide +kernel) rfl) (mc1 (wa 502 (by decide +kernel) rfl) (mc1 (wa 17 (by decide +kernel) rfl) mc0))) (wa 503 (by decide +kernel) rfl) (by decide +kernel)) rfl rfl rfl (by decide +kernel) ⟨Nat.le_of_ble_eq_true rfl, Nat.le_of_ble_eq_true rfl⟩) preEq rfl rfl hl.1 rfl (lv_room (Nat.le_of_ble_eq_true rfl)) dX2_walk_225 ⟨Nat.le_of_ble_eq_true rfl, Nat.le_of_ble_eq_true rfl⟩) (fun r_27 er_27 => ?_)
                          have er_27 : r_27 = (k_pageNumber (k_at w (k_entryPlace pg ad (nI n)))) := er_27
                          subst er_27
                          refine lv_lstore (lv' := [(8, .long (k_pageNumber (k_at w (k_entryPlace pg ad (nI n))))), (13, .long (k_at w (k_entryPlace pg ad (nI n)))), (11, .long (k_entryPlace pg ad (nI n))), (0, .ref g0), (1, .long ad), (3, .int ac), (4, .int md), (10, .int (nI n))]) hx hb dX2_walk_228 hl (by decide) rfl (fun ls hl => ?_)
                          refine lv_iinc (v := ((nI n) + (-1))) (lv' := [(10, .int ((nI n) + (-1))), (8, .long (k_pageNumber (k_at w (k_entryPlace pg ad (nI n))))), (13, .long (k_at w (k_entryPlace pg ad (nI n)))), (11, .long (k_entryPlace pg ad (nI n))), (0, .ref g0), (1, .long ad), (3, .int ac), (4, .int md)]) hx hb dX2_walk_230 hl (k := 7) rfl rfl (by decide) rfl (fun ls hl => ?_)
                          refine lv_goto (tgt := 70) hx hb dX2_walk_233 (by decide) ?_
                          rw [show nI n + (-1) = nI n - 1 from (Int32.sub_eq_add_neg ..).symm] at hl
                          exact ih _ ls _ _ _ _ (by omega) (by rw [← hq]; simp [k_walkF, mal_eq, last_eq, c_3, c_5, hwi, c_8, c_11, c_13, c_16, c_17, c_20, c_23, c_26]) hP hD hS (lv_sub hl [4, 5, 6, 7, 1, 0] rfl)
                        · rw [b2i_z] at c_26
                          rw [Bool.not_eq_false] at c_26
                          refine lv_iload_n hx hb dX2_walk_218 rfl (lv_at hl 4 rfl) ?_
                          refine vp_callSl (W.runS (As := [.int ac]) (rest := []) ⟨hx, hb, hml, hown, hts⟩ (mtX2_pageFault l ac) (va_cwS 1 hts (gAll (mc1 (wa 483 (by decide +kernel) rfl) (mc1 (wa 484 (by decide +kernel) rfl) (mc1 (wa 17 (by decide +kernel) rfl) mc0))) (wa 485 (by decide +kernel) rfl) (by decide +kernel)) rfl rfl rfl (by decide +kernel) ⟨Nat.le_of_ble_eq_true rfl, Nat.le_of_ble_eq_true rfl⟩) preEq rfl rfl hl.1 rfl (lv_room (Nat.le_of_ble_eq_true rfl)) dX2_walk_219 ⟨Nat.le_of_ble_eq_true rfl, Nat.le_of_ble_eq_true rfl⟩) (fun r_28 er_28 => ?_)
                          have er_28 : r_28 = (k_pageFault ac) := er_28
                          subst er_28
                          have w9_0 : (k_walk0 w tb su mx cf nu ad ac md).2 = w := (by first | rfl | (rw [← hq]; simp only [k_walkF, mal_eq, last_eq, c_3, c_5, hwi, c_8, c_11, c_13, c_16, c_17, c_20, c_23, c_26, b2i, decide_true, decide_false, Bool.not_true, Bool.not_false, Bool.and_true, Bool.and_false, Bool.true_and, Bool.false_and, Bool.or_true, Bool.or_false, Bool.true_or, Bool.false_or, reduceIte, or_true, true_or, or_false, false_or, and_true, true_and, and_false, false_and, not_true_eq_false, not_false_eq_true, Bool.false_eq_true, eq_self]; done) | (rw [← hq]; simp [k_walkF, mal_eq, last_eq, c_3, c_5, hwi, c_8, c_11, c_13, c_16, c_17, c_20, c_23, c_26]; done))
                          have hP9 : va_P (dC, dI) vwCl (wMD cL cI g0 gm gc gn cd (k_walk0 w tb su mx cf nu ad ac md).2 tb su mx cf nu r_7.1 r_7.2) H := (by rw [w9_0]; exact hP)
                          have hD9 : va_D A (wMD cL cI g0 gm gc gn cd (k_walk0 w tb su mx cf nu ad ac md).2 tb su mx cf nu r_7.1 r_7.2) := (by rw [w9_0]; exact hD)
                          exact W.lret (v := (k_pageFault ac)) hx hb hr (fun t ht hW => ⟨⟨(k_pageFault ac), (r_7.1, r_7.2), rfl, (by first | rfl | (rw [← hq]; simp only [k_walkF, mal_eq, last_eq, c_3, c_5, hwi, c_8, c_11, c_13, c_16, c_17, c_20, c_23, c_26, b2i, decide_true, decide_false, Bool.not_true, Bool.not_false, Bool.and_true, Bool.and_false, Bool.true_and, Bool.false_and, Bool.or_true, Bool.or_false, Bool.true_or, Bool.false_or, reduceIte, or_true, true_or, or_false, false_or, and_true, true_and, and_false, false_and, not_true_eq_false, not_false_eq_true, Bool.false_eq_true, eq_self]; done) | (rw [← hq]; simp [k_walkF, mal_eq, last_eq, c_3, c_5, hwi, c_8, c_11, c_13, c_16, c_17, c_20, c_23, c_26]; done)), (by rw [ht]; exact hP9), va_K.moved hW.alike hK, hD9⟩, hS.F ht⟩) hS.2.2 dX2_walk_222
                · rw [b2i_z] at c_16
                  rw [Bool.not_eq_false] at c_16
                  refine lv_aload_n hx hb dX2_walk_171 rfl (lv_at hl 2 rfl) ?_
                  refine lv_lload_n hx hb dX2_walk_172 rfl (lv_at hl 3 rfl) ?_
                  refine lv_iload_n hx hb dX2_walk_173 rfl (lv_at hl 4 rfl) ?_
                  refine lv_iload hx hb dX2_walk_174 (lv_at hl 5 rfl) ?_
                  refine lv_lload hx hb dX2_walk_176 (lv_at hl 1 rfl) ?_
                  refine lv_iload hx hb dX2_walk_178 (lv_at hl 7 rfl) ?_
                  have hPc := hP.sub (ws' := (wMD cL cI g0 gm gc gn cd w tb su mx cf nu r_7.1 r_7.2)) [0, 1, 2, 3] rfl
                  have hDc := hD.sub (ws' := (wMD cL cI g0 gm gc gn cd w tb su mx cf nu r_7.1 r_7.2)) [0, 1, 2, 3] (by decide) rfl
                  have hFc := va_free (wc := (wMD cL cI g0 gm gc gn cd w tb su mx cf nu r_7.1 r_7.2)) hD hS hA [0, 1, 2, 3] rfl
                  refine va_calll (va_runV (As := [.long ad, .int ac, .int md, .long (k_entryPlace pg ad (nI n)), .int (nI n)]) (rest := []) ⟨hx, hb, hml, hown, hts⟩ (mtX2_last l dC dI cL cI g0 gm gc gn cd w tb su mx cf nu r_7.1 r_7.2 H.size ad ac md (k_entryPlace pg ad (nI n)) n (hwi) (hn) (hc) (hmd) (hac) (by omega)) (cwV 5 hts (gAll (mc1 (wa 497 (by decide +kernel) rfl) (mc1 (wa 499 (by decide +kernel) rfl) (mc1 (wa 12 (by decide +kernel) rfl) (mc1 (wa 17 (by decide +kernel) rfl) mc0)))) (wa 500 (by decide +kernel) rfl) (by decide +kernel)) rfl rfl rfl (by decide +kernel) ⟨Nat.le_of_ble_eq_true rfl, Nat.le_of_ble_eq_true rfl⟩) (mu_pre (ci := 2) (q0 := 0) hK hPc hDc rfl rfl) rfl rfl hl.1 rfl (lv_room (Nat.le_of_ble_eq_true rfl)) dX2_walk_180 ⟨Nat.le_of_ble_eq_true rfl, Nat.le_of_ble_eq_true rfl⟩) hS (fun q _ h => hFc q h) hFc (fun v_29 r_29 t H1 locs ht hvm hpo hB hz1 hk1 hS => ?_)
                  obtain ⟨hP1, hK1, hD1⟩ := hB
                  rw [ht] at hP1
                  obtain ⟨hP, hD⟩ := va_join (wr := []) (w1 := (wMD cL cI g0 gm gc gn cd (k_last w su mx cf nu ad ac md n (k_entryPlace pg ad (nI n))).2 tb su mx cf nu r_29.1 r_29.2)) hP hD [0, 1, 2, 3] [] rfl rfl (by decide) (by decide) hk1 hFc hP1 hD1
                  generalize H1 = H at hP hS ⊢
                  have hP : va_P (dC, dI) vwCl [(g0, .inr (2, [.int cd, .ref gm, .long tb, .int (b2i su), .int (b2i mx), .ref gc, .ref gn, .long r_29.1, .long r_29.2])), (gm, .inl (cL, 8192, .inr (.inl (k_last w su mx cf nu ad ac md n (k_entryPlace pg ad (nI n))).2))), (gc, .inl (cI, 8, .inl cf)), (gn, .inl (cL, 8, .inr (.inl nu)))] H := hP
                  have hD : va_D A [(g0, .inr (2, [.int cd, .ref gm, .long tb, .int (b2i su), .int (b2i mx), .ref gc, .ref gn, .long r_29.1, .long r_29.2])), (gm, .inl (cL, 8192, .inr (.inl (k_last w su mx cf nu ad ac md n (k_entryPlace pg ad (nI n))).2))), (gc, .inl (cI, 8, .inl cf)), (gn, .inl (cL, 8, .inr (.inl nu)))] := hD
                  have ev_29 : v_29 = (k_last w su mx cf nu ad ac md n (k_entryPlace pg ad (nI n))).1 := hpo
                  subst ev_29
                  have w9_0 : (k_walk0 w tb su mx cf nu ad ac md).2 = (k_last w su mx cf nu ad ac md n (k_entryPlace pg ad (nI n))).2 := (by first | rfl | (rw [← hq]; simp only [k_walkF, mal_eq, last_eq, c_3, c_5, hwi, c_8, c_11, c_13, c_16, b2i, decide_true, decide_false, Bool.not_true, Bool.not_false, Bool.and_true, Bool.and_false, Bool.true_and, Bool.false_and, Bool.or_true, Bool.or_false, Bool.true_or, Bool.false_or, reduceIte, or_true, true_or, or_false, false_or, and_true, true_and, and_false, false_and, not_true_eq_false, not_false_eq_true, Bool.false_eq_true, eq_self]; done) | (rw [← hq]; simp [k_walkF, mal_eq, last_eq, c_3, c_5, hwi, c_8, c_11, c_13, c_16]; done))
                  have hP9 : va_P (dC, dI) vwCl (wMD cL cI g0 gm gc gn cd (k_walk0 w tb su mx cf nu ad ac md).2 tb su mx cf nu r_29.1 r_29.2) H := (by rw [w9_0]; exact hP)
                  have hD9 : va_D A (wMD cL cI g0 gm gc gn cd (k_walk0 w tb su mx cf nu ad ac md).2 tb su mx cf nu r_29.1 r_29.2) := (by rw [w9_0]; exact hD)
                  exact W.lret (v := (k_last w su mx cf nu ad ac md n (k_entryPlace pg ad (nI n))).1) hx hb hr (fun t ht hW => ⟨⟨(k_last w su mx cf nu ad ac md n (k_entryPlace pg ad (nI n))).1, (r_29.1, r_29.2), rfl, (by first | rfl | (rw [← hq]; simp only [k_walkF, mal_eq, last_eq, c_3, c_5, hwi, c_8, c_11, c_13, c_16, b2i, decide_true, decide_false, Bool.not_true, Bool.not_false, Bool.and_true, Bool.and_false, Bool.true_and, Bool.false_and, Bool.or_true, Bool.or_false, Bool.true_or, Bool.false_or, reduceIte, or_true, true_or, or_false, false_or, and_true, true_and, and_false, false_and, not_true_eq_false, not_false_eq_true, Bool.false_eq_true, eq_self]; done) | (rw [← hq]; simp [k_walkF, mal_eq, last_eq, c_3, c_5, hwi, c_8, c_11, c_13, c_16]; done)), (by rw [ht]; exact hP9), va_K.moved hW.alike hK, hD9⟩, hS.F ht⟩) hS.2.2 dX2_walk_183
            · rw [b2i_z] at c_11
              rw [Bool.not_eq_false] at c_11
              refine lv_iload_n hx hb dX2_walk_148 rfl (lv_at hl 4 rfl) ?_
              refine vp_callSl (W.runS (As := [.int ac]) (rest := []) ⟨hx, hb, hml, hown, hts⟩ (mtX2_pageFault l ac) (va_cwS 1 hts (gAll (mc1 (wa 483 (by decide +kernel) rfl) (mc1 (wa 484 (by decide +kernel) rfl) (mc1 (wa 17 (by decide +kernel) rfl) mc0))) (wa 485 (by decide +kernel) rfl) (by decide +kernel)) rfl rfl rfl (by decide +kernel) ⟨Nat.le_of_ble_eq_true rfl, Nat.le_of_ble_eq_true rfl⟩) preEq rfl rfl hl.1 rfl (lv_room (Nat.le_of_ble_eq_true rfl)) dX2_walk_149 ⟨Nat.le_of_ble_eq_true rfl, Nat.le_of_ble_eq_true rfl⟩) (fun r_30 er_30 => ?_)
              have er_30 : r_30 = (k_pageFault ac) := er_30
              subst er_30
              have w9_0 : (k_walk0 w tb su mx cf nu ad ac md).2 = w := (by first | rfl | (rw [← hq]; simp only [k_walkF, mal_eq, last_eq, c_3, c_5, hwi, c_8, c_11, b2i, decide_true, decide_false, Bool.not_true, Bool.not_false, Bool.and_true, Bool.and_false, Bool.true_and, Bool.false_and, Bool.or_true, Bool.or_false, Bool.true_or, Bool.false_or, reduceIte, or_true, true_or, or_false, false_or, and_true, true_and, and_false, false_and, not_true_eq_false, not_false_eq_true, Bool.false_eq_true, eq_self]; done) | (rw [← hq]; simp [k_walkF, mal_eq, last_eq, c_3, c_5, hwi, c_8, c_11]; done))
              have hP9 : va_P (dC, dI) vwCl (wMD cL cI g0 gm gc gn cd (k_walk0 w tb su mx cf nu ad ac md).2 tb su mx cf nu r_7.1 r_7.2) H := (by rw [w9_0]; exact hP)
              have hD9 : va_D A (wMD cL cI g0 gm gc gn cd (k_walk0 w tb su mx cf nu ad ac md).2 tb su mx cf nu r_7.1 r_7.2) := (by rw [w9_0]; exact hD)
              exact W.lret (v := (k_pageFault ac)) hx hb hr (fun t ht hW => ⟨⟨(k_pageFault ac), (r_7.1, r_7.2), rfl, (by first | rfl | (rw [← hq]; simp only [k_walkF, mal_eq, last_eq, c_3, c_5, hwi, c_8, c_11, b2i, decide_true, decide_false, Bool.not_true, Bool.not_false, Bool.and_true, Bool.and_false, Bool.true_and, Bool.false_and, Bool.or_true, Bool.or_false, Bool.true_or, Bool.false_or, reduceIte, or_true, true_or, or_false, false_or, and_true, true_and, and_false, false_and, not_true_eq_false, not_false_eq_true, Bool.false_eq_true, eq_self]; done) | (rw [← hq]; simp [k_walkF, mal_eq, last_eq, c_3, c_5, hwi, c_8, c_11]; done)), (by rw [ht]; exact hP9), va_K.moved hW.alike hK, hD9⟩, hS.F ht⟩) hS.2.2 dX2_walk_152
          · rw [b2i_z] at c_8
            refine lv_iload_n hx hb dX2_walk_123 rfl (lv_at hl 3 rfl) ?_
            refine vp_callSl (W.runS (As := [.int ac]) (rest := []) ⟨hx, hb, hml, hown, hts⟩ (mtX2_accessFault l ac) (va_cwS 1 hts (gAll (mc1 (wa 473 (by decide +kernel) rfl) (mc1 (wa 474 (by decide +kernel) rfl) (mc1 (wa 17 (by decide +kernel) rfl) mc0))) (wa 475 (by decide +kernel) rfl) (by decide +kernel)) rfl rfl rfl (by decide +kernel) ⟨Nat.le_of_ble_eq_true rfl, Nat.le_of_ble_eq_true rfl⟩) preEq rfl rfl hl.1 rfl (lv_room (Nat.le_of_ble_eq_true rfl)) dX2_walk_124 ⟨Nat.le_of_ble_eq_true rfl, Nat.le_of_ble_eq_true rfl⟩) (fun r_31 er_31 => ?_)
            have er_31 : r_31 = (k_accessFault ac) := er_31
            subst er_31
            have w9_0 : (k_walk0 w tb su mx cf nu ad ac md).2 = w := (by first | rfl | (rw [← hq]; simp only [k_walkF, mal_eq, last_eq, c_3, c_5, hwi, c_8, b2i, decide_true, decide_false, Bool.not_true, Bool.not_false, Bool.and_true, Bool.and_false, Bool.true_and, Bool.false_and, Bool.or_true, Bool.or_false, Bool.true_or, Bool.false_or, reduceIte, or_true, true_or, or_false, false_or, and_true, true_and, and_false, false_and, not_true_eq_false, not_false_eq_true, Bool.false_eq_true, eq_self]; done) | (rw [← hq]; simp [k_walkF, mal_eq, last_eq, c_3, c_5, hwi, c_8]; done))
            have hP9 : va_P (dC, dI) vwCl (wMD cL cI g0 gm gc gn cd (k_walk0 w tb su mx cf nu ad ac md).2 tb su mx cf nu r_7.1 r_7.2) H := (by rw [w9_0]; exact hP)
            have hD9 : va_D A (wMD cL cI g0 gm gc gn cd (k_walk0 w tb su mx cf nu ad ac md).2 tb su mx cf nu r_7.1 r_7.2) := (by rw [w9_0]; exact hD)
            exact W.lret (v := (k_accessFault ac)) hx hb hr (fun t ht hW => ⟨⟨(k_accessFault ac), (r_7.1, r_7.2), rfl, (by first | rfl | (rw [← hq]; simp only [k_walkF, mal_eq, last_eq, c_3, c_5, hwi, c_8, b2i, decide_true, decide_false, Bool.not_true, Bool.not_false, Bool.and_true, Bool.and_false, Bool.true_and, Bool.false_and, Bool.or_true, Bool.or_false, Bool.true_or, Bool.false_or, reduceIte, or_true, true_or, or_false, false_or, and_true, true_and, and_false, false_and, not_true_eq_false, not_false_eq_true, Bool.false_eq_true, eq_self]; done) | (rw [← hq]; simp [k_walkF, mal_eq, last_eq, c_3, c_5, hwi, c_8]; done)), (by rw [ht]; exact hP9), va_K.moved hW.alike hK, hD9⟩, hS.F ht⟩) hS.2.2 dX2_walk_127
  refine lv_aload_n hx hb dX2_walk_0 rfl (lv_at hl 0 rfl) ?_
  refine va_get (D := (dC, dI)) (ci := 2) (v := .long tb) (C := RX2) (T := TX2) (N := 9) hx hb hts iwX2 hown hK hP 0 rfl rfl 2 (by decide) (hts (.fieldLink RX2 38 RX2 "table" "J") (wa 357 (by decide +kernel) rfl)) (fun _ h9 => h9) rfl dX2_walk_1 ?_
  refine vp_callSl (W.runS (As := [.long tb]) (rest := []) ⟨hx, hb, hml, hown, hts⟩ (mtX2_sortOf l tb) (va_cwS 1 hts (gAll (mc1 (wa 412 (by decide +kernel) rfl) (mc1 (wa 413 (by decide +kernel) rfl) (mc1 (wa 17 (by decide +kernel) rfl) mc0))) (wa 414 (by decide +kernel) rfl) (by decide +kernel)) rfl rfl rfl (by decide +kernel) ⟨Nat.le_of_ble_eq_true rfl, Nat.le_of_ble_eq_true rfl⟩) preEq rfl rfl hl.1 rfl (lv_room (Nat.le_of_ble_eq_true rfl)) dX2_walk_4 ⟨Nat.le_of_ble_eq_true rfl, Nat.le_of_ble_eq_true rfl⟩) (fun r_32 er_32 => ?_)
  have er_32 : r_32 = (k_ush tb 60) := er_32
  subst er_32
  refine lv_ldc2 (v := 8) hx hb hown (hts (.constantLong RX2 28 8) (wa 396 (by decide +kernel) rfl)) dX2_walk_7 ?_
  refine W.lcmp hx hb dX2_walk_10 ?_
  refine lv_if_ne (tgt := 18) hx hb dX2_walk_11 (by decide) (fun c_33 => ?_) (fun c_33 => ?_)
  · rw [lg_cmp_eq] at c_33
    refine lv_iconst (v := 4) hx hb dX2_walk_18 (by decide) ?_
    refine lv_istore (lv' := [(5, .int 4), (0, .ref g0), (1, .long ad), (3, .int ac), (4, .int md)]) hx hb dX2_walk_19 hl (by decide) rfl (fun ls hl => ?_)
    refine lv_lload_n hx hb dX2_walk_21 rfl (lv_at hl 2 rfl) ?_
    refine lv_bipush (v := 9) hx hb dX2_walk_22 (by decide) ?_
    refine lv_iload hx hb dX2_walk_24 (lv_at hl 0 rfl) ?_
    refine lv_imul hx hb dX2_walk_26 ?_
    refine lv_bipush (v := 11) hx hb dX2_walk_27 (by decide) ?_
    refine lv_iadd hx hb dX2_walk_29 ?_
    refine lv_lshr (v := (k_shr ad ((9 * 4) + 11))) hx hb dX2_walk_30 rfl ?_
    refine lv_topl (fun x6 e_x6 => ?_)
    refine lv_lstore (lv' := [(6, .long x6), (5, .int 4), (0, .ref g0), (1, .long ad), (3, .int ac), (4, .int md)]) hx hb dX2_walk_31 hl (by decide) rfl (fun ls hl => ?_)
    have hd : k_depths tb = 4 := by simp [k_depths, ← sort8, c_33]
    have hx6 : k_above ad (nI 4) = x6 := by rw [e_x6]; exact congrArg (k_shr ad) (by decide)
    refine lv_lload hx hb dX2_walk_33 (lv_at hl 0 rfl) ?_
    refine lv_lconst (v := 0) hx hb dX2_walk_35 (by decide) ?_
    refine W.lcmp hx hb dX2_walk_36 ?_
    refine lv_if_eq (tgt := 54) hx hb dX2_walk_37 (by decide) (fun c_34 => ?_) (fun c_34 => ?_)
    · rw [lg_cmp_eq] at c_34
      refine lv_aload_n hx hb dX2_walk_54 rfl (lv_at hl 2 rfl) ?_
      refine va_get (D := (dC, dI)) (ci := 2) (v := .long tb) (C := RX2) (T := TX2) (N := 9) hx hb hts iwX2 hown hK hP 0 rfl rfl 2 (by decide) (hts (.fieldLink RX2 38 RX2 "table" "J") (wa 357 (by decide +kernel) rfl)) (fun _ h9 => h9) rfl dX2_walk_55 ?_
      refine lv_ldc2 (v := 17592186044415) hx hb hown (hts (.constantLong RX2 111 17592186044415) (wa 489 (by decide +kernel) rfl)) dX2_walk_58 ?_
      refine lv_land hx hb dX2_walk_61 ?_
      refine lv_lstore (lv' := [(8, .long (tb &&& 17592186044415)), (6, .long x6), (5, .int 4), (0, .ref g0), (1, .long ad), (3, .int ac), (4, .int md)]) hx hb dX2_walk_62 hl (by decide) rfl (fun ls hl => ?_)
      refine lv_iload hx hb dX2_walk_64 (lv_at hl 2 rfl) ?_
      refine lv_iconst (v := 1) hx hb dX2_walk_66 (by decide) ?_
      refine lv_isub hx hb dX2_walk_67 ?_
      refine lv_istore (lv' := [(10, .int (4 - 1)), (8, .long (tb &&& 17592186044415)), (6, .long x6), (5, .int 4), (0, .ref g0), (1, .long ad), (3, .int ac), (4, .int md)]) hx hb dX2_walk_68 hl (by decide) rfl (fun ls hl => ?_)
      exact loop 4 _ ls _ _ _ _ (by decide) (by unfold k_walk0; rw [hd]; simp only [hx6, c_33, c_34, true_or, or_true, if_true]) hP hD hS (lv_sub hl [4, 5, 6, 7, 1, 0] rfl)
    · rw [lg_cmp_eq] at c_34
      refine lv_lload hx hb dX2_walk_40 (lv_at hl 0 rfl) ?_
      refine lv_ldc2 (v := (-1)) hx hb hown (hts (.constantLong RX2 99 (-1)) (wa 476 (by decide +kernel) rfl)) dX2_walk_42 ?_
      refine W.lcmp hx hb dX2_walk_45 ?_
      refine lv_if_eq (tgt := 54) hx hb dX2_walk_46 (by decide) (fun c_35 => ?_) (fun c_35 => ?_)
      · rw [lg_cmp_eq] at c_35
        refine lv_aload_n hx hb dX2_walk_54 rfl (lv_at hl 2 rfl) ?_
        refine va_get (D := (dC, dI)) (ci := 2) (v := .long tb) (C := RX2) (T := TX2) (N := 9) hx hb hts iwX2 hown hK hP 0 rfl rfl 2 (by decide) (hts (.fieldLink RX2 38 RX2 "table" "J") (wa 357 (by decide +kernel) rfl)) (fun _ h9 => h9) rfl dX2_walk_55 ?_
        refine lv_ldc2 (v := 17592186044415) hx hb hown (hts (.constantLong RX2 111 17592186044415) (wa 489 (by decide +kernel) rfl)) dX2_walk_58 ?_
        refine lv_land hx hb dX2_walk_61 ?_
        refine lv_lstore (lv' := [(8, .long (tb &&& 17592186044415)), (6, .long x6), (5, .int 4), (0, .ref g0), (1, .long ad), (3, .int ac), (4, .int md)]) hx hb dX2_walk_62 hl (by decide) rfl (fun ls hl => ?_)
        refine lv_iload hx hb dX2_walk_64 (lv_at hl 2 rfl) ?_
        refine lv_iconst (v := 1) hx hb dX2_walk_66 (by decide) ?_
        refine lv_isub hx hb dX2_walk_67 ?_
        refine lv_istore (lv' := [(10, .int (4 - 1)), (8, .long (tb &&& 17592186044415)), (6, .long x6), (5, .int 4), (0, .ref g0), (1, .long ad), (3, .int ac), (4, .int md)]) hx hb dX2_walk_68 hl (by decide) rfl (fun ls hl => ?_)
        exact loop 4 _ ls _ _ _ _ (by decide) (by unfold k_walk0; rw [hd]; simp only [hx6, c_33, c_34, c_35, true_or, or_true, if_true]) hP hD hS (lv_sub hl [4, 5, 6, 7, 1, 0] rfl)
      · rw [lg_cmp_eq] at c_35
        refine lv_iload_n hx hb dX2_walk_49 rfl (lv_at hl 4 rfl) ?_
        refine vp_callSl (W.runS (As := [.int ac]) (rest := []) ⟨hx, hb, hml, hown, hts⟩ (mtX2_pageFault l ac) (va_cwS 1 hts (gAll (mc1 (wa 483 (by decide +kernel) rfl) (mc1 (wa 484 (by decide +kernel) rfl) (mc1 (wa 17 (by decide +kernel) rfl) mc0))) (wa 485 (by decide +kernel) rfl) (by decide +kernel)) rfl rfl rfl (by decide +kernel) ⟨Nat.le_of_ble_eq_true rfl, Nat.le_of_ble_eq_true rfl⟩) preEq rfl rfl hl.1 rfl (lv_room (Nat.le_of_ble_eq_true rfl)) dX2_walk_50 ⟨Nat.le_of_ble_eq_true rfl, Nat.le_of_ble_eq_true rfl⟩) (fun r_36 er_36 => ?_)
        have er_36 : r_36 = (k_pageFault ac) := er_36
        subst er_36
        have w9_0 : (k_walk0 w tb su mx cf nu ad ac md).2 = w := (by unfold k_walk0; rw [hd]; simp [hx6, c_33, c_34, c_35])
        have hP9 : va_P (dC, dI) vwCl (wMD cL cI g0 gm gc gn cd (k_walk0 w tb su mx cf nu ad ac md).2 tb su mx cf nu fr tt) s.heap := (by rw [w9_0]; exact hP)
        have hD9 : va_D A (wMD cL cI g0 gm gc gn cd (k_walk0 w tb su mx cf nu ad ac md).2 tb su mx cf nu fr tt) := (by rw [w9_0]; exact hD)
        exact W.lret (v := (k_pageFault ac)) hx hb hr (fun t ht hW => ⟨⟨(k_pageFault ac), (fr, tt), rfl, (by unfold k_walk0; rw [hd]; simp [hx6, c_33, c_34, c_35]), (by rw [ht]; exact hP9), va_K.moved hW.alike hK, hD9⟩, hS.F ht⟩) hS.2.2 dX2_walk_53
  · rw [lg_cmp_eq] at c_33
    refine lv_iconst (v := 3) hx hb dX2_walk_14 (by decide) ?_
    refine lv_goto (tgt := 19) hx hb dX2_walk_15 (by decide) ?_
    refine lv_istore (lv' := [(5, .int 3), (0, .ref g0), (1, .long ad), (3, .int ac), (4, .int md)]) hx hb dX2_walk_19 hl (by decide) rfl (fun ls hl => ?_)
    refine lv_lload_n hx hb dX2_walk_21 rfl (lv_at hl 2 rfl) ?_
    refine lv_bipush (v := 9) hx hb dX2_walk_22 (by decide) ?_
    refine lv_iload hx hb dX2_walk_24 (lv_at hl 0 rfl) ?_
    refine lv_imul hx hb dX2_walk_26 ?_
    refine lv_bipush (v := 11) hx hb dX2_walk_27 (by decide) ?_
    refine lv_iadd hx hb dX2_walk_29 ?_
    refine lv_lshr (v := (k_shr ad ((9 * 3) + 11))) hx hb dX2_walk_30 rfl ?_
    refine lv_topl (fun x6 e_x6 => ?_)
    refine lv_lstore (lv' := [(6, .long x6), (5, .int 3), (0, .ref g0), (1, .long ad), (3, .int ac), (4, .int md)]) hx hb dX2_walk_31 hl (by decide) rfl (fun ls hl => ?_)
    have hd : k_depths tb = 3 := by simp [k_depths, ← sort8, c_33]
    have hx6 : k_above ad (nI 3) = x6 := by rw [e_x6]; exact congrArg (k_shr ad) (by decide)
    refine lv_lload hx hb dX2_walk_33 (lv_at hl 0 rfl) ?_
    refine lv_lconst (v := 0) hx hb dX2_walk_35 (by decide) ?_
    refine W.lcmp hx hb dX2_walk_36 ?_
    refine lv_if_eq (tgt := 54) hx hb dX2_walk_37 (by decide) (fun c_37 => ?_) (fun c_37 => ?_)
    · rw [lg_cmp_eq] at c_37
      refine lv_aload_n hx hb dX2_walk_54 rfl (lv_at hl 2 rfl) ?_
      refine va_get (D := (dC, dI)) (ci := 2) (v := .long tb) (C := RX2) (T := TX2) (N := 9) hx hb hts iwX2 hown hK hP 0 rfl rfl 2 (by decide) (hts (.fieldLink RX2 38 RX2 "table" "J") (wa 357 (by decide +kernel) rfl)) (fun _ h9 => h9) rfl dX2_walk_55 ?_
      refine lv_ldc2 (v := 17592186044415) hx hb hown (hts (.constantLong RX2 111 17592186044415) (wa 489 (by decide +kernel) rfl)) dX2_walk_58 ?_
      refine lv_land hx hb dX2_walk_61 ?_
      refine lv_lstore (lv' := [(8, .long (tb &&& 17592186044415)), (6, .long x6), (5, .int 3), (0, .ref g0), (1, .long ad), (3, .int ac), (4, .int md)]) hx hb dX2_walk_62 hl (by decide) rfl (fun ls hl => ?_)
      refine lv_iload hx hb dX2_walk_64 (lv_at hl 2 rfl) ?_
      refine lv_iconst (v := 1) hx hb dX2_walk_66 (by decide) ?_
      refine lv_isub hx hb dX2_walk_67 ?_
      refine lv_istore (lv' := [(10, .int (3 - 1)), (8, .long (tb &&& 17592186044415)), (6, .long x6), (5, .int 3), (0, .ref g0), (1, .long ad), (3, .int ac), (4, .int md)]) hx hb dX2_walk_68 hl (by decide) rfl (fun ls hl => ?_)
      exact loop 3 _ ls _ _ _ _ (by decide) (by unfold k_walk0; rw [hd]; simp only [hx6, c_33, c_37, true_or, or_true, if_true]) hP hD hS (lv_sub hl [4, 5, 6, 7, 1, 0] rfl)
    · rw [lg_cmp_eq] at c_37
      refine lv_lload hx hb dX2_walk_40 (lv_at hl 0 rfl) ?_
      refine lv_ldc2 (v := (-1)) hx hb hown (hts (.constantLong RX2 99 (-1)) (wa 476 (by decide +kernel) rfl)) dX2_walk_42 ?_
      refine W.lcmp hx hb dX2_walk_45 ?_
      refine lv_if_eq (tgt := 54) hx hb dX2_walk_46 (by decide) (fun c_38 => ?_) (fun c_38 => ?_)
      · rw [lg_cmp_eq] at c_38
        refine lv_aload_n hx hb dX2_walk_54 rfl (lv_at hl 2 rfl) ?_
        refine va_get (D := (dC, dI)) (ci := 2) (v := .long tb) (C := RX2) (T := TX2) (N := 9) hx hb hts iwX2 hown hK hP 0 rfl rfl 2 (by decide) (hts (.fieldLink RX2 38 RX2 "table" "J") (wa 357 (by decide +kernel) rfl)) (fun _ h9 => h9) rfl dX2_walk_55 ?_
        refine lv_ldc2 (v := 17592186044415) hx hb hown (hts (.constantLong RX2 111 17592186044415) (wa 489 (by decide +kernel) rfl)) dX2_walk_58 ?_
        refine lv_land hx hb dX2_walk_61 ?_
        refine lv_lstore (lv' := [(8, .long (tb &&& 17592186044415)), (6, .long x6), (5, .int 3), (0, .ref g0), (1, .long ad), (3, .int ac), (4, .int md)]) hx hb dX2_walk_62 hl (by decide) rfl (fun ls hl => ?_)
        refine lv_iload hx hb dX2_walk_64 (lv_at hl 2 rfl) ?_
        refine lv_iconst (v := 1) hx hb dX2_walk_66 (by decide) ?_
        refine lv_isub hx hb dX2_walk_67 ?_
        refine lv_istore (lv' := [(10, .int (3 - 1)), (8, .long (tb &&& 17592186044415)), (6, .long x6), (5, .int 3), (0, .ref g0), (1, .long ad), (3, .int ac), (4, .int md)]) hx hb dX2_walk_68 hl (by decide) rfl (fun ls hl => ?_)
        exact loop 3 _ ls _ _ _ _ (by decide) (by unfold k_walk0; rw [hd]; simp only [hx6, c_33, c_37, c_38, true_or, or_true, if_true]) hP hD hS (lv_sub hl [4, 5, 6, 7, 1, 0] rfl)
      · rw [lg_cmp_eq] at c_38
        refine lv_iload_n hx hb dX2_walk_49 rfl (lv_at hl 4 rfl) ?_
        refine vp_callSl (W.runS (As := [.int ac]) (rest := []) ⟨hx, hb, hml, hown, hts⟩ (mtX2_pageFault l ac) (va_cwS 1 hts (gAll (mc1 (wa 483 (by decide +kernel) rfl) (mc1 (wa 484 (by decide +kernel) rfl) (mc1 (wa 17 (by decide +kernel) rfl) mc0))) (wa 485 (by decide +kernel) rfl) (by decide +kernel)) rfl rfl rfl (by decide +kernel) ⟨Nat.le_of_ble_eq_true rfl, Nat.le_of_ble_eq_true rfl⟩) preEq rfl rfl hl.1 rfl (lv_room (Nat.le_of_ble_eq_true rfl)) dX2_walk_50 ⟨Nat.le_of_ble_eq_true rfl, Nat.le_of_ble_eq_true rfl⟩) (fun r_39 er_39 => ?_)
        have er_39 : r_39 = (k_pageFault ac) := er_39
        subst er_39
        have w9_0 : (k_walk0 w tb su mx cf nu ad ac md).2 = w := (by unfold k_walk0; rw [hd]; simp [hx6, c_33, c_37, c_38])
        have hP9 : va_P (dC, dI) vwCl (wMD cL cI g0 gm gc gn cd (k_walk0 w tb su mx cf nu ad ac md).2 tb su mx cf nu fr tt) s.heap := (by rw [w9_0]; exact hP)
        have hD9 : va_D A (wMD cL cI g0 gm gc gn cd (k_walk0 w tb su mx cf nu ad ac md).2 tb su mx cf nu fr tt) := (by rw [w9_0]; exact hD)
        exact W.lret (v := (k_pageFault ac)) hx hb hr (fun t ht hW => ⟨⟨(k_pageFault ac), (fr, tt), rfl, (by unfold k_walk0; rw [hd]; simp [hx6, c_33, c_37, c_38]), (by rw [ht]; exact hP9), va_K.moved hW.alike hK, hD9⟩, hS.F ht⟩) hS.2.2 dX2_walk_53
set_option maxHeartbeats 4000000 in
set_option maxRecDepth 100000 in
theorem mtX2_allows (l : Launch) (dC : Nat → ClassId) (dI : Nat → Nat → Nat) (cL : ClassId) (cI : ClassId) (g0 : Nat) (gm : Nat) (gc : Nat) (gn : Nat) (cd : Int32) (w : Nat → Int64) (tb : Int64) (su : Bool) (mx : Bool) (cf : Nat → Int32) (nu : Nat → Int64) (fr : Int64) (tt : Int64) (hz : Nat) (ad : Int64) (ac : Int32) (md : Int32) (sn : Nat) (h1 : m_isAccess ac md (nI sn) = true) (h2 : m_isWithin ad (nI sn) = true) (h3 : k_ush ad 56 = 0) (hS8 : okS sn) (hn : okN nu) (hc : okC cf) : Met l yX2_allows wsX2_allows ({ frames := 3, cells := 0, slots := 0, locals := 77 }) (va_Pc [.ref g0, .long ad, .int ac, .int md, .int (nI sn)] (fun U => U.heap.size = hz ∧ va_P (dC, dI) vwCl (wMD cL cI g0 gm gc gn cd w tb su mx cf nu fr tt) U.heap ∧ va_K (dC, dI) vwCl [(cL, .long), (cI, .int)] U ∧ va_D (fun _ => True) (wMD cL cI g0 gm gc gn cd w tb su mx cf nu fr tt))) (va_Qi (fun r (_ : Int64 × Int64) => r = b2i (k_let cf nu ad ac md (nI sn))) (fun u t => va_P (dC, dI) vwCl (wMD cL cI g0 gm gc gn 0 w tb su mx cf nu u.1 u.2) t.heap ∧ va_K (dC, dI) vwCl [(cL, .long), (cI, .int)] t ∧ va_D (va_A (wMD cL cI g0 gm gc gn cd w tb su mx cf nu fr tt) hz) (wMD cL cI g0 gm gc gn 0 w tb su mx cf nu u.1 u.2)) (va_A (wMD cL cI g0 gm gc gn cd w tb su mx cf nu fr tt) hz)) 0 0 (va_A (wMD cL cI g0 gm gc gn cd w tb su mx cf nu fr tt) hz) := by
  refine Met.ofW (cc := cX2_allows) (maxL := 6) (ret := (some .boolean)) (by decide) rfl ?_
  intro p e s m args below meth c s₁ B hml hv
  obtain ⟨rfl, hsz, hP, hK, hD0⟩ := hv
  have hx := B.exec
  have hb := B.bytes
  have hr := B.returns
  have hts := atoms_spec (ws := wsX2_allows) B.pre
  have hown : s.vm.findClass RX2 = some m.cls := findClass_of_methodNamed B.named
  have hlocks := B.notSynchronized
  subst hsz
  have hD := hD0.self (sz := s.heap.size)
  generalize hAe : va_A (wMD cL cI g0 gm gc gn cd w tb su mx cf nu fr tt) s.heap.size = A at hD ⊢
  have hA : ∀ q : Nat, s.heap.size ≤ q → A q := fun q h => by rw [← hAe]; exact Or.inr h
  have hS : va_S A s.heap s.heap [] := va_S.rf
  have hP : va_P (dC, dI) vwCl [(g0, .inr (2, [.int cd, .ref gm, .long tb, .int (b2i su), .int (b2i mx), .ref gc, .ref gn, .long fr, .long tt])), (gm, .inl (cL, 8192, .inr (.inl w))), (gc, .inl (cI, 8, .inl cf)), (gn, .inl (cL, 8, .inr (.inl nu)))] s.heap := hP
  have hD : va_D A [(g0, .inr (2, [.int cd, .ref gm, .long tb, .int (b2i su), .int (b2i mx), .ref gc, .ref gn, .long fr, .long tt])), (gm, .inl (cL, 8192, .inr (.inl w))), (gc, .inl (cI, 8, .inl cf)), (gn, .inl (cL, 8, .inr (.inl nu)))] := hD
  have hl := lv_entry ([.ref g0, .long ad, .int ac, .int md, .int (nI sn)]) (n := 6) (Nat.le_of_ble_eq_true rfl)
  rw [lg_entry_eq]
  generalize (lg_sl ([.ref g0, .long ad, .int ac, .int md, .int (nI sn)]) ++ List.replicate (6 - (lg_sl ([.ref g0, .long ad, .int ac, .int md, .int (nI sn)])).length) Slot.unset).toArray = ls at hl ⊢
  have hl : lv_has ls 6 [(0, .ref g0), (1, .long ad), (3, .int ac), (4, .int md), (5, .int (nI sn))] := hl
  refine lv_aload_n hx hb dX2_allows_0 rfl (lv_at hl 0 rfl) ?_
  refine lv_iload_n hx hb dX2_allows_1 rfl (lv_at hl 2 rfl) ?_
  refine lv_iload hx hb dX2_allows_2 (lv_at hl 3 rfl) ?_
  refine lv_iload hx hb dX2_allows_4 (lv_at hl 4 rfl) ?_
  refine vp_callSi (W.runS (As := [.int ac, .int md, .int (nI sn)]) (rest := [.ref g0]) ⟨hx, hb, hml, hown, hts⟩ (mtX2_isAccess l ac md (nI sn)) (va_cwS 3 hts (gAll (mc1 (wa 450 (by decide +kernel) rfl) (mc1 (wa 451 (by decide +kernel) rfl) (mc1 (wa 17 (by decide +kernel) rfl) mc0))) (wa 452 (by decide +kernel) rfl) (by decide +kernel)) rfl rfl rfl (by decide +kernel) ⟨Nat.le_of_ble_eq_true rfl, Nat.le_of_ble_eq_true rfl⟩) preEq rfl rfl hl.1 rfl (lv_room (Nat.le_of_ble_eq_true rfl)) dX2_allows_6 ⟨Nat.le_of_ble_eq_true rfl, Nat.le_of_ble_eq_true rfl⟩) (fun r_1 er_1 => ?_)
  have er_1 : r_1 = (b2i (m_isAccess ac md (nI sn))) := er_1
  subst er_1
  refine lv_if_eq (tgt := 34) hx hb dX2_allows_9 (by decide) (fun c_2 => ?_) (fun c_2 => ?_)
  · rw [b2i_z] at c_2
    exact absurd (c_2.symm.trans h1) (by decide)
  · rw [b2i_z] at c_2
    rw [Bool.not_eq_false] at c_2
    refine lv_lload_n hx hb dX2_allows_12 rfl (lv_at hl 1 rfl) ?_
    refine lv_iload hx hb dX2_allows_13 (lv_at hl 4 rfl) ?_
    refine vp_callSi (W.runS (As := [.long ad, .int (nI sn)]) (rest := [.ref g0]) ⟨hx, hb, hml, hown, hts⟩ (mtX2_isWithin l ad (nI sn)) (va_cwS 2 hts (gAll (mc1 (wa 453 (by decide +kernel) rfl) (mc1 (wa 454 (by decide +kernel) rfl) (mc1 (wa 17 (by decide +kernel) rfl) mc0))) (wa 455 (by decide +kernel) rfl) (by decide +kernel)) rfl rfl rfl (by decide +kernel) ⟨Nat.le_of_ble_eq_true rfl, Nat.le_of_ble_eq_true rfl⟩) preEq rfl rfl hl.1 rfl (lv_room (Nat.le_of_ble_eq_true rfl)) dX2_allows_15 ⟨Nat.le_of_ble_eq_true rfl, Nat.le_of_ble_eq_true rfl⟩) (fun r_3 er_3 => ?_)
    have er_3 : r_3 = (b2i (m_isWithin ad (nI sn))) := er_3
    subst er_3
    refine lv_if_eq (tgt := 34) hx hb dX2_allows_18 (by decide) (fun c_4 => ?_) (fun c_4 => ?_)
    · rw [b2i_z] at c_4
      exact absurd (c_4.symm.trans h2) (by decide)
    · rw [b2i_z] at c_4
      rw [Bool.not_eq_false] at c_4
      refine lv_lload_n hx hb dX2_allows_21 rfl (lv_at hl 1 rfl) ?_
      refine lv_bipush (v := 56) hx hb dX2_allows_22 (by decide) ?_
      refine lv_lushr (v := (k_ush ad 56)) hx hb dX2_allows_24 rfl ?_
      refine lv_lconst (v := 0) hx hb dX2_allows_25 (by decide) ?_
      refine W.lcmp hx hb dX2_allows_26 ?_
      refine lv_if_ne (tgt := 34) hx hb dX2_allows_27 (by decide) (fun c_5 => ?_) (fun c_5 => ?_)
      · rw [lg_cmp_eq] at c_5
        exact absurd h3 c_5
      · rw [lg_cmp_eq] at c_5
        refine lv_iconst (v := 0) hx hb dX2_allows_30 (by decide) ?_
        refine lv_goto (tgt := 35) hx hb dX2_allows_31 (by decide) ?_
        refine va_put (D := (dC, dI)) (ci := 2) (v := .int 0) (ty := .int) (C := RX2) (T := TX2) (N := 9) hx hb hts iwX2 tyX2 tyX2_ok nmX2 hown hK hP hD hS 0 rfl rfl 0 (by decide) (hts (.fieldLink RX2 20 RX2 "code" "I") (wa 355 (by decide +kernel) rfl)) (fun _ h9 => h9) rfl (by decide +kernel) rfl rfl (Nat.le_of_ble_eq_true rfl) dX2_allows_35 (fun H locs hP hD hS => ?_)
        have hP : va_P (dC, dI) vwCl [(g0, .inr (2, [.int 0, .ref gm, .long tb, .int (b2i su), .int (b2i mx), .ref gc, .ref gn, .long fr, .long tt])), (gm, .inl (cL, 8192, .inr (.inl w))), (gc, .inl (cI, 8, .inl cf)), (gn, .inl (cL, 8, .inr (.inl nu)))] H := hP
        have hD : va_D A [(g0, .inr (2, [.int 0, .ref gm, .long tb, .int (b2i su), .int (b2i mx), .ref gc, .ref gn, .long fr, .long tt])), (gm, .inl (cL, 8192, .inr (.inl w))), (gc, .inl (cI, 8, .inl cf)), (gn, .inl (cL, 8, .inr (.inl nu)))] := hD
        refine lv_aload_n hx hb dX2_allows_38 rfl (lv_at hl 0 rfl) ?_
        refine va_get (D := (dC, dI)) (ci := 2) (v := .int 0) (C := RX2) (T := TX2) (N := 9) hx hb hts iwX2 hown hK hP 0 rfl rfl 0 (by decide) (hts (.fieldLink RX2 20 RX2 "code" "I") (wa 355 (by decide +kernel) rfl)) (fun _ h9 => h9) rfl dX2_allows_39 ?_
        refine lv_if_ne (tgt := 62) hx hb dX2_allows_42 (by decide) (fun c_6 => ?_) (fun c_6 => ?_)
        · first | exact absurd c_6 (by decide) | exact absurd (by decide) c_6
        · refine lv_aload_n hx hb dX2_allows_45 rfl (lv_at hl 0 rfl) ?_
          refine lv_lload_n hx hb dX2_allows_46 rfl (lv_at hl 1 rfl) ?_
          refine lv_iload_n hx hb dX2_allows_47 rfl (lv_at hl 2 rfl) ?_
          refine lv_iload hx hb dX2_allows_48 (lv_at hl 3 rfl) ?_
          refine lv_iload hx hb dX2_allows_50 (lv_at hl 4 rfl) ?_
          have hPc := hP.sub (ws' := (wMD cL cI g0 gm gc gn 0 w tb su mx cf nu fr tt)) [0, 1, 2, 3] rfl
          have hDc := hD.sub (ws' := (wMD cL cI g0 gm gc gn 0 w tb su mx cf nu fr tt)) [0, 1, 2, 3] (by decide) rfl
          have hFc := va_free (wc := (wMD cL cI g0 gm gc gn 0 w tb su mx cf nu fr tt)) hD hS hA [0, 1, 2, 3] rfl
          refine va_calli (va_runV (As := [.long ad, .int ac, .int md, .int (nI sn)]) (rest := []) ⟨hx, hb, hml, hown, hts⟩ (mtX2_isLet l dC dI cL cI g0 gm gc gn 0 w tb su mx cf nu fr tt H.size ad ac md sn (phys_ok h3) (hS8) (hn) (hc)) (cwV 4 hts (gAll (mc1 (wa 458 (by decide +kernel) rfl) (mc1 (wa 460 (by decide +kernel) rfl) (mc1 (wa 9 (by decide +kernel) rfl) (mc1 (wa 17 (by decide +kernel) rfl) mc0)))) (wa 461 (by decide +kernel) rfl) (by decide +kernel)) rfl rfl rfl (by decide +kernel) ⟨Nat.le_of_ble_eq_true rfl, Nat.le_of_ble_eq_true rfl⟩) (mu_pre (ci := 2) (q0 := 0) hK hPc hDc rfl rfl) rfl rfl hl.1 rfl (lv_room (Nat.le_of_ble_eq_true rfl)) dX2_allows_52 ⟨Nat.le_of_ble_eq_true rfl, Nat.le_of_ble_eq_true rfl⟩) hS (fun q _ h => hFc q h) hFc (fun v_7 r_7 t H1 locs ht hvm hpo hB hz1 hk1 hS => ?_)
          obtain ⟨hP1, hK1, hD1⟩ := hB
          rw [ht] at hP1
          obtain ⟨hP, hD⟩ := va_join (wr := []) (w1 := (wMD cL cI g0 gm gc gn 0 w tb su mx cf nu r_7.1 r_7.2)) hP hD [0, 1, 2, 3] [] rfl rfl (by decide) (by decide) hk1 hFc hP1 hD1
          generalize H1 = H at hP hS ⊢
          have hP : va_P (dC, dI) vwCl [(g0, .inr (2, [.int 0, .ref gm, .long tb, .int (b2i su), .int (b2i mx), .ref gc, .ref gn, .long r_7.1, .long r_7.2])), (gm, .inl (cL, 8192, .inr (.inl w))), (gc, .inl (cI, 8, .inl cf)), (gn, .inl (cL, 8, .inr (.inl nu)))] H := hP
          have hD : va_D A [(g0, .inr (2, [.int 0, .ref gm, .long tb, .int (b2i su), .int (b2i mx), .ref gc, .ref gn, .long r_7.1, .long r_7.2])), (gm, .inl (cL, 8192, .inr (.inl w))), (gc, .inl (cI, 8, .inl cf)), (gn, .inl (cL, 8, .inr (.inl nu)))] := hD
          have ev_7 : v_7 = (b2i (k_let cf nu ad ac md (nI sn))) := hpo
          subst ev_7
          refine lv_if_eq (tgt := 62) hx hb dX2_allows_55 (by decide) (fun c_8 => ?_) (fun c_8 => ?_)
          · rw [b2i_z] at c_8
            refine lv_iconst (v := 0) hx hb dX2_allows_62 (by decide) ?_
            have hP9 : va_P (dC, dI) vwCl (wMD cL cI g0 gm gc gn 0 w tb su mx cf nu r_7.1 r_7.2) H := hP
            have hD9 : va_D A (wMD cL cI g0 gm gc gn 0 w tb su mx cf nu r_7.1 r_7.2) := hD
            exact W.zret (v := 0) hx hb hr rfl (fun t ht hW => ⟨⟨0, (r_7.1, r_7.2), rfl, (by first | rfl | (simp only [b2i, c_2, c_4, eq_true c_5, c_8, b2i, decide_true, decide_false, Bool.not_true, Bool.not_false, Bool.and_true, Bool.and_false, Bool.true_and, Bool.false_and, Bool.or_true, Bool.or_false, Bool.true_or, Bool.false_or, reduceIte, or_true, true_or, or_false, false_or, and_true, true_and, and_false, false_and, not_true_eq_false, not_false_eq_true, Bool.false_eq_true, eq_self]; done) | (simp [b2i, c_2, c_4, eq_true c_5, c_8]; done) | (simp only [b2i, c_2, c_4, c_5, c_8, b2i, decide_true, decide_false, Bool.not_true, Bool.not_false, Bool.and_true, Bool.and_false, Bool.true_and, Bool.false_and, Bool.or_true, Bool.or_false, Bool.true_or, Bool.false_or, reduceIte, or_true, true_or, or_false, false_or, and_true, true_and, and_false, false_and, not_true_eq_false, not_false_eq_true, Bool.false_eq_true, eq_self]; done) | (simp [b2i, c_2, c_4, c_5, c_8]; done)), (by rw [ht]; exact hP9), va_K.moved hW.alike hK, hD9⟩, hS.F ht⟩) hS.2.2 dX2_allows_63
          · rw [b2i_z] at c_8
            rw [Bool.not_eq_false] at c_8
            refine lv_iconst (v := 1) hx hb dX2_allows_58 (by decide) ?_
            refine lv_goto (tgt := 63) hx hb dX2_allows_59 (by decide) ?_
            have hP9 : va_P (dC, dI) vwCl (wMD cL cI g0 gm gc gn 0 w tb su mx cf nu r_7.1 r_7.2) H := hP
            have hD9 : va_D A (wMD cL cI g0 gm gc gn 0 w tb su mx cf nu r_7.1 r_7.2) := hD
            exact W.zret (v := 1) hx hb hr rfl (fun t ht hW => ⟨⟨1, (r_7.1, r_7.2), rfl, (by first | rfl | (simp only [b2i, c_2, c_4, eq_true c_5, c_8, b2i, decide_true, decide_false, Bool.not_true, Bool.not_false, Bool.and_true, Bool.and_false, Bool.true_and, Bool.false_and, Bool.or_true, Bool.or_false, Bool.true_or, Bool.false_or, reduceIte, or_true, true_or, or_false, false_or, and_true, true_and, and_false, false_and, not_true_eq_false, not_false_eq_true, Bool.false_eq_true, eq_self]; done) | (simp [b2i, c_2, c_4, eq_true c_5, c_8]; done) | (simp only [b2i, c_2, c_4, c_5, c_8, b2i, decide_true, decide_false, Bool.not_true, Bool.not_false, Bool.and_true, Bool.and_false, Bool.true_and, Bool.false_and, Bool.or_true, Bool.or_false, Bool.true_or, Bool.false_or, reduceIte, or_true, true_or, or_false, false_or, and_true, true_and, and_false, false_and, not_true_eq_false, not_false_eq_true, Bool.false_eq_true, eq_self]; done) | (simp [b2i, c_2, c_4, c_5, c_8]; done)), (by rw [ht]; exact hP9), va_K.moved hW.alike hK, hD9⟩, hS.F ht⟩) hS.2.2 dX2_allows_63
set_option maxHeartbeats 4000000 in
set_option maxRecDepth 100000 in
theorem mtX2_allows_no (l : Launch) (dC : Nat → ClassId) (dI : Nat → Nat → Nat) (cL : ClassId) (cI : ClassId) (g0 : Nat) (gm : Nat) (gc : Nat) (gn : Nat) (cd : Int32) (w : Nat → Int64) (tb : Int64) (su : Bool) (mx : Bool) (cf : Nat → Int32) (nu : Nat → Int64) (fr : Int64) (tt : Int64) (hz : Nat) (ad : Int64) (ac : Int32) (md : Int32) (sz : Int32) (h1 : ¬ (m_isAccess ac md sz = true ∧ m_isWithin ad sz = true ∧ k_ush ad 56 = 0)) : Met l yX2_allows wsX2_allows ({ frames := 3, cells := 0, slots := 0, locals := 77 }) (va_Pc [.ref g0, .long ad, .int ac, .int md, .int sz] (fun U => U.heap.size = hz ∧ va_P (dC, dI) vwCl (wMD cL cI g0 gm gc gn cd w tb su mx cf nu fr tt) U.heap ∧ va_K (dC, dI) vwCl [(cL, .long), (cI, .int)] U ∧ va_D (fun _ => True) (wMD cL cI g0 gm gc gn cd w tb su mx cf nu fr tt))) (va_Qi (fun r (_ : Unit) => r = 0) (fun _ t => va_P (dC, dI) vwCl (wMD cL cI g0 gm gc gn 1 w tb su mx cf nu fr tt) t.heap ∧ va_K (dC, dI) vwCl [(cL, .long), (cI, .int)] t ∧ va_D (va_A (wMD cL cI g0 gm gc gn cd w tb su mx cf nu fr tt) hz) (wMD cL cI g0 gm gc gn 1 w tb su mx cf nu fr tt)) (va_A (wMD cL cI g0 gm gc gn cd w tb su mx cf nu fr tt) hz)) 0 0 (va_A (wMD cL cI g0 gm gc gn cd w tb su mx cf nu fr tt) hz) := by
  refine Met.ofW (cc := cX2_allows) (maxL := 6) (ret := (some .boolean)) (by decide) rfl ?_
  intro p e s m args below meth c s₁ B hml hv
  obtain ⟨rfl, hsz, hP, hK, hD0⟩ := hv
  have hx := B.exec
  have hb := B.bytes
  have hr := B.returns
  have hts := atoms_spec (ws := wsX2_allows) B.pre
  have hown : s.vm.findClass RX2 = some m.cls := findClass_of_methodNamed B.named
  have hlocks := B.notSynchronized
  subst hsz
  have hD := hD0.self (sz := s.heap.size)
  generalize hAe : va_A (wMD cL cI g0 gm gc gn cd w tb su mx cf nu fr tt) s.heap.size = A at hD ⊢
  have hA : ∀ q : Nat, s.heap.size ≤ q → A q := fun q h => by rw [← hAe]; exact Or.inr h
  have hS : va_S A s.heap s.heap [] := va_S.rf
  have hP : va_P (dC, dI) vwCl [(g0, .inr (2, [.int cd, .ref gm, .long tb, .int (b2i su), .int (b2i mx), .ref gc, .ref gn, .long fr, .long tt])), (gm, .inl (cL, 8192, .inr (.inl w))), (gc, .inl (cI, 8, .inl cf)), (gn, .inl (cL, 8, .inr (.inl nu)))] s.heap := hP
  have hD : va_D A [(g0, .inr (2, [.int cd, .ref gm, .long tb, .int (b2i su), .int (b2i mx), .ref gc, .ref gn, .long fr, .long tt])), (gm, .inl (cL, 8192, .inr (.inl w))), (gc, .inl (cI, 8, .inl cf)), (gn, .inl (cL, 8, .inr (.inl nu)))] := hD
  have hl := lv_entry ([.ref g0, .long ad, .int ac, .int md, .int sz]) (n := 6) (Nat.le_of_ble_eq_true rfl)
  rw [lg_entry_eq]
  generalize (lg_sl ([.ref g0, .long ad, .int ac, .int md, .int sz]) ++ List.replicate (6 - (lg_sl ([.ref g0, .long ad, .int ac, .int md, .int sz])).length) Slot.unset).toArray = ls at hl ⊢
  have hl : lv_has ls 6 [(0, .ref g0), (1, .long ad), (3, .int ac), (4, .int md), (5, .int sz)] := hl
  refine lv_aload_n hx hb dX2_allows_0 rfl (lv_at hl 0 rfl) ?_
  refine lv_iload_n hx hb dX2_allows_1 rfl (lv_at hl 2 rfl) ?_
  refine lv_iload hx hb dX2_allows_2 (lv_at hl 3 rfl) ?_
  refine lv_iload hx hb dX2_allows_4 (lv_at hl 4 rfl) ?_
  refine vp_callSi (W.runS (As := [.int ac, .int md, .int sz]) (rest := [.ref g0]) ⟨hx, hb, hml, hown, hts⟩ (mtX2_isAccess l ac md sz) (va_cwS 3 hts (gAll (mc1 (wa 450 (by decide +kernel) rfl) (mc1 (wa 451 (by decide +kernel) rfl) (mc1 (wa 17 (by decide +kernel) rfl) mc0))) (wa 452 (by decide +kernel) rfl) (by decide +kernel)) rfl rfl rfl (by decide +kernel) ⟨Nat.le_of_ble_eq_true rfl, Nat.le_of_ble_eq_true rfl⟩) preEq rfl rfl hl.1 rfl (lv_room (Nat.le_of_ble_eq_true rfl)) dX2_allows_6 ⟨Nat.le_of_ble_eq_true rfl, Nat.le_of_ble_eq_true rfl⟩) (fun r_1 er_1 => ?_)
  have er_1 : r_1 = (b2i (m_isAccess ac md sz)) := er_1
  subst er_1
  refine lv_if_eq (tgt := 34) hx hb dX2_allows_9 (by decide) (fun c_2 => ?_) (fun c_2 => ?_)
  · rw [b2i_z] at c_2
    refine lv_iconst (v := 1) hx hb dX2_allows_34 (by decide) ?_
    refine va_put (D := (dC, dI)) (ci := 2) (v := .int 1) (ty := .int) (C := RX2) (T := TX2) (N := 9) hx hb hts iwX2 tyX2 tyX2_ok nmX2 hown hK hP hD hS 0 rfl rfl 0 (by decide) (hts (.fieldLink RX2 20 RX2 "code" "I") (wa 355 (by decide +kernel) rfl)) (fun _ h9 => h9) rfl (by decide +kernel) rfl rfl (Nat.le_of_ble_eq_true rfl) dX2_allows_35 (fun H locs hP hD hS => ?_)
    have hP : va_P (dC, dI) vwCl [(g0, .inr (2, [.int 1, .ref gm, .long tb, .int (b2i su), .int (b2i mx), .ref gc, .ref gn, .long fr, .long tt])), (gm, .inl (cL, 8192, .inr (.inl w))), (gc, .inl (cI, 8, .inl cf)), (gn, .inl (cL, 8, .inr (.inl nu)))] H := hP
    have hD : va_D A [(g0, .inr (2, [.int 1, .ref gm, .long tb, .int (b2i su), .int (b2i mx), .ref gc, .ref gn, .long fr, .long tt])), (gm, .inl (cL, 8192, .inr (.inl w))), (gc, .inl (cI, 8, .inl cf)), (gn, .inl (cL, 8, .inr (.inl nu)))] := hD
    refine lv_aload_n hx hb dX2_allows_38 rfl (lv_at hl 0 rfl) ?_
    refine va_get (D := (dC, dI)) (ci := 2) (v := .int 1) (C := RX2) (T := TX2) (N := 9) hx hb hts iwX2 hown hK hP 0 rfl rfl 0 (by decide) (hts (.fieldLink RX2 20 RX2 "code" "I") (wa 355 (by decide +kernel) rfl)) (fun _ h9 => h9) rfl dX2_allows_39 ?_
    refine lv_if_ne (tgt := 62) hx hb dX2_allows_42 (by decide) (fun c_3 => ?_) (fun c_3 => ?_)
    · refine lv_iconst (v := 0) hx hb dX2_allows_62 (by decide) ?_
      have hP9 : va_P (dC, dI) vwCl (wMD cL cI g0 gm gc gn 1 w tb su mx cf nu fr tt) H := hP
      have hD9 : va_D A (wMD cL cI g0 gm gc gn 1 w tb su mx cf nu fr tt) := hD
      exact W.zret (v := 0) hx hb hr rfl (fun t ht hW => ⟨⟨0, (), rfl, (by first | rfl | (simp only [c_2, b2i, decide_true, decide_false, Bool.not_true, Bool.not_false, Bool.and_true, Bool.and_false, Bool.true_and, Bool.false_and, Bool.or_true, Bool.or_false, Bool.true_or, Bool.false_or, reduceIte, or_true, true_or, or_false, false_or, and_true, true_and, and_false, false_and, not_true_eq_false, not_false_eq_true, Bool.false_eq_true, eq_self]; done) | (simp [c_2]; done)), (by rw [ht]; exact hP9), va_K.moved hW.alike hK, hD9⟩, hS.F ht⟩) hS.2.2 dX2_allows_63
    · first | exact absurd c_3 (by decide) | exact absurd (by decide) c_3
  · rw [b2i_z] at c_2
    rw [Bool.not_eq_false] at c_2
    refine lv_lload_n hx hb dX2_allows_12 rfl (lv_at hl 1 rfl) ?_
    refine lv_iload hx hb dX2_allows_13 (lv_at hl 4 rfl) ?_
    refine vp_callSi (W.runS (As := [.long ad, .int sz]) (rest := [.ref g0]) ⟨hx, hb, hml, hown, hts⟩ (mtX2_isWithin l ad sz) (va_cwS 2 hts (gAll (mc1 (wa 453 (by decide +kernel) rfl) (mc1 (wa 454 (by decide +kernel) rfl) (mc1 (wa 17 (by decide +kernel) rfl) mc0))) (wa 455 (by decide +kernel) rfl) (by decide +kernel)) rfl rfl rfl (by decide +kernel) ⟨Nat.le_of_ble_eq_true rfl, Nat.le_of_ble_eq_true rfl⟩) preEq rfl rfl hl.1 rfl (lv_room (Nat.le_of_ble_eq_true rfl)) dX2_allows_15 ⟨Nat.le_of_ble_eq_true rfl, Nat.le_of_ble_eq_true rfl⟩) (fun r_4 er_4 => ?_)
    have er_4 : r_4 = (b2i (m_isWithin ad sz)) := er_4
    subst er_4
    refine lv_if_eq (tgt := 34) hx hb dX2_allows_18 (by decide) (fun c_5 => ?_) (fun c_5 => ?_)
    · rw [b2i_z] at c_5
      refine lv_iconst (v := 1) hx hb dX2_allows_34 (by decide) ?_
      refine va_put (D := (dC, dI)) (ci := 2) (v := .int 1) (ty := .int) (C := RX2) (T := TX2) (N := 9) hx hb hts iwX2 tyX2 tyX2_ok nmX2 hown hK hP hD hS 0 rfl rfl 0 (by decide) (hts (.fieldLink RX2 20 RX2 "code" "I") (wa 355 (by decide +kernel) rfl)) (fun _ h9 => h9) rfl (by decide +kernel) rfl rfl (Nat.le_of_ble_eq_true rfl) dX2_allows_35 (fun H locs hP hD hS => ?_)
      have hP : va_P (dC, dI) vwCl [(g0, .inr (2, [.int 1, .ref gm, .long tb, .int (b2i su), .int (b2i mx), .ref gc, .ref gn, .long fr, .long tt])), (gm, .inl (cL, 8192, .inr (.inl w))), (gc, .inl (cI, 8, .inl cf)), (gn, .inl (cL, 8, .inr (.inl nu)))] H := hP
      have hD : va_D A [(g0, .inr (2, [.int 1, .ref gm, .long tb, .int (b2i su), .int (b2i mx), .ref gc, .ref gn, .long fr, .long tt])), (gm, .inl (cL, 8192, .inr (.inl w))), (gc, .inl (cI, 8, .inl cf)), (gn, .inl (cL, 8, .inr (.inl nu)))] := hD
      refine lv_aload_n hx hb dX2_allows_38 rfl (lv_at hl 0 rfl) ?_
      refine va_get (D := (dC, dI)) (ci := 2) (v := .int 1) (C := RX2) (T := TX2) (N := 9) hx hb hts iwX2 hown hK hP 0 rfl rfl 0 (by decide) (hts (.fieldLink RX2 20 RX2 "code" "I") (wa 355 (by decide +kernel) rfl)) (fun _ h9 => h9) rfl dX2_allows_39 ?_
      refine lv_if_ne (tgt := 62) hx hb dX2_allows_42 (by decide) (fun c_6 => ?_) (fun c_6 => ?_)
      · refine lv_iconst (v := 0) hx hb dX2_allows_62 (by decide) ?_
        have hP9 : va_P (dC, dI) vwCl (wMD cL cI g0 gm gc gn 1 w tb su mx cf nu fr tt) H := hP
        have hD9 : va_D A (wMD cL cI g0 gm gc gn 1 w tb su mx cf nu fr tt) := hD
        exact W.zret (v := 0) hx hb hr rfl (fun t ht hW => ⟨⟨0, (), rfl, (by first | rfl | (simp only [c_2, c_5, b2i, decide_true, decide_false, Bool.not_true, Bool.not_false, Bool.and_true, Bool.and_false, Bool.true_and, Bool.false_and, Bool.or_true, Bool.or_false, Bool.true_or, Bool.false_or, reduceIte, or_true, true_or, or_false, false_or, and_true, true_and, and_false, false_and, not_true_eq_false, not_false_eq_true, Bool.false_eq_true, eq_self]; done) | (simp [c_2, c_5]; done)), (by rw [ht]; exact hP9), va_K.moved hW.alike hK, hD9⟩, hS.F ht⟩) hS.2.2 dX2_allows_63
      · first | exact absurd c_6 (by decide) | exact absurd (by decide) c_6
    · rw [b2i_z] at c_5
      rw [Bool.not_eq_false] at c_5
      refine lv_lload_n hx hb dX2_allows_21 rfl (lv_at hl 1 rfl) ?_
      refine lv_bipush (v := 56) hx hb dX2_allows_22 (by decide) ?_
      refine lv_lushr (v := (k_ush ad 56)) hx hb dX2_allows_24 rfl ?_
      refine lv_lconst (v := 0) hx hb dX2_allows_25 (by decide) ?_
      refine W.lcmp hx hb dX2_allows_26 ?_
      refine lv_if_ne (tgt := 34) hx hb dX2_allows_27 (by decide) (fun c_7 => ?_) (fun c_7 => ?_)
      · rw [lg_cmp_eq] at c_7
        refine lv_iconst (v := 1) hx hb dX2_allows_34 (by decide) ?_
        refine va_put (D := (dC, dI)) (ci := 2) (v := .int 1) (ty := .int) (C := RX2) (T := TX2) (N := 9) hx hb hts iwX2 tyX2 tyX2_ok nmX2 hown hK hP hD hS 0 rfl rfl 0 (by decide) (hts (.fieldLink RX2 20 RX2 "code" "I") (wa 355 (by decide +kernel) rfl)) (fun _ h9 => h9) rfl (by decide +kernel) rfl rfl (Nat.le_of_ble_eq_true rfl) dX2_allows_35 (fun H locs hP hD hS => ?_)
        have hP : va_P (dC, dI) vwCl [(g0, .inr (2, [.int 1, .ref gm, .long tb, .int (b2i su), .int (b2i mx), .ref gc, .ref gn, .long fr, .long tt])), (gm, .inl (cL, 8192, .inr (.inl w))), (gc, .inl (cI, 8, .inl cf)), (gn, .inl (cL, 8, .inr (.inl nu)))] H := hP
        have hD : va_D A [(g0, .inr (2, [.int 1, .ref gm, .long tb, .int (b2i su), .int (b2i mx), .ref gc, .ref gn, .long fr, .long tt])), (gm, .inl (cL, 8192, .inr (.inl w))), (gc, .inl (cI, 8, .inl cf)), (gn, .inl (cL, 8, .inr (.inl nu)))] := hD
        refine lv_aload_n hx hb dX2_allows_38 rfl (lv_at hl 0 rfl) ?_
        refine va_get (D := (dC, dI)) (ci := 2) (v := .int 1) (C := RX2) (T := TX2) (N := 9) hx hb hts iwX2 hown hK hP 0 rfl rfl 0 (by decide) (hts (.fieldLink RX2 20 RX2 "code" "I") (wa 355 (by decide +kernel) rfl)) (fun _ h9 => h9) rfl dX2_allows_39 ?_
        refine lv_if_ne (tgt := 62) hx hb dX2_allows_42 (by decide) (fun c_8 => ?_) (fun c_8 => ?_)
        · refine lv_iconst (v := 0) hx hb dX2_allows_62 (by decide) ?_
          have hP9 : va_P (dC, dI) vwCl (wMD cL cI g0 gm gc gn 1 w tb su mx cf nu fr tt) H := hP
          have hD9 : va_D A (wMD cL cI g0 gm gc gn 1 w tb su mx cf nu fr tt) := hD
          exact W.zret (v := 0) hx hb hr rfl (fun t ht hW => ⟨⟨0, (), rfl, (by first | rfl | (simp only [c_2, c_5, c_7, b2i, decide_true, decide_false, Bool.not_true, Bool.not_false, Bool.and_true, Bool.and_false, Bool.true_and, Bool.false_and, Bool.or_true, Bool.or_false, Bool.true_or, Bool.false_or, reduceIte, or_true, true_or, or_false, false_or, and_true, true_and, and_false, false_and, not_true_eq_false, not_false_eq_true, Bool.false_eq_true, eq_self]; done) | (simp [c_2, c_5, c_7]; done)), (by rw [ht]; exact hP9), va_K.moved hW.alike hK, hD9⟩, hS.F ht⟩) hS.2.2 dX2_allows_63
        · first | exact absurd c_8 (by decide) | exact absurd (by decide) c_8
      · rw [lg_cmp_eq] at c_7
        exact absurd ⟨c_2, c_5, c_7⟩ h1
set_option maxHeartbeats 4000000 in
set_option maxRecDepth 100000 in
theorem mtX2_find (l : Launch) (dC : Nat → ClassId) (dI : Nat → Nat → Nat) (cL : ClassId) (cI : ClassId) (g0 : Nat) (gm : Nat) (gc : Nat) (gn : Nat) (cd : Int32) (w : Nat → Int64) (tb : Int64) (su : Bool) (mx : Bool) (cf : Nat → Int32) (nu : Nat → Int64) (fr : Int64) (tt : Int64) (hz : Nat) (ad : Int64) (ac : Int32) (md : Int32) (sn : Nat) (h1 : m_isAccess ac md (nI sn) = true) (h2 : m_isWithin ad (nI sn) = true) (hS8 : okS sn) (hn : okN nu) (hc : okC cf) (hmd : md = 0 ∨ md = 1 ∨ md = 3) (hac : ac = 0 ∨ ac = 1 ∨ ac = 2) : Met l yX2_find wsX2_find ({ frames := 5, cells := 0, slots := 0, locals := 142 }) (va_Pc [.ref g0, .long ad, .int ac, .int md, .int (nI sn)] (fun U => U.heap.size = hz ∧ va_P (dC, dI) vwCl (wMD cL cI g0 gm gc gn cd w tb su mx cf nu fr tt) U.heap ∧ va_K (dC, dI) vwCl [(cL, .long), (cI, .int)] U ∧ va_D (fun _ => True) (wMD cL cI g0 gm gc gn cd w tb su mx cf nu fr tt))) (va_Ql (fun r (_ : Int64 × Int64) => r = (k_find w tb su mx cf nu ad ac md (nI sn)).1) (fun u t => va_P (dC, dI) vwCl (wMD cL cI g0 gm gc gn 0 (k_find w tb su mx cf nu ad ac md (nI sn)).2 tb su mx cf nu u.1 u.2) t.heap ∧ va_K (dC, dI) vwCl [(cL, .long), (cI, .int)] t ∧ va_D (va_A (wMD cL cI g0 gm gc gn cd w tb su mx cf nu fr tt) hz) (wMD cL cI g0 gm gc gn 0 (k_find w tb su mx cf nu ad ac md (nI sn)).2 tb su mx cf nu u.1 u.2)) (va_A (wMD cL cI g0 gm gc gn cd w tb su mx cf nu fr tt) hz)) 0 0 (va_A (wMD cL cI g0 gm gc gn cd w tb su mx cf nu fr tt) hz) := by
  refine Met.ofW (cc := cX2_find) (maxL := 9) (ret := (some .long)) (by decide) rfl ?_
  intro p e s m args below meth c s₁ B hml hv
  obtain ⟨rfl, hsz, hP, hK, hD0⟩ := hv
  have hx := B.exec
  have hb := B.bytes
  have hr := B.returns
  have hts := atoms_spec (ws := wsX2_find) B.pre
  have hown : s.vm.findClass RX2 = some m.cls := findClass_of_methodNamed B.named
  have hlocks := B.notSynchronized
  subst hsz
  have hD := hD0.self (sz := s.heap.size)
  generalize hAe : va_A (wMD cL cI g0 gm gc gn cd w tb su mx cf nu fr tt) s.heap.size = A at hD ⊢
  have hA : ∀ q : Nat, s.heap.size ≤ q → A q := fun q h => by rw [← hAe]; exact Or.inr h
  have hS : va_S A s.heap s.heap [] := va_S.rf
  have hP : va_P (dC, dI) vwCl [(g0, .inr (2, [.int cd, .ref gm, .long tb, .int (b2i su), .int (b2i mx), .ref gc, .ref gn, .long fr, .long tt])), (gm, .inl (cL, 8192, .inr (.inl w))), (gc, .inl (cI, 8, .inl cf)), (gn, .inl (cL, 8, .inr (.inl nu)))] s.heap := hP
  have hD : va_D A [(g0, .inr (2, [.int cd, .ref gm, .long tb, .int (b2i su), .int (b2i mx), .ref gc, .ref gn, .long fr, .long tt])), (gm, .inl (cL, 8192, .inr (.inl w))), (gc, .inl (cI, 8, .inl cf)), (gn, .inl (cL, 8, .inr (.inl nu)))] := hD
  have hl := lv_entry ([.ref g0, .long ad, .int ac, .int md, .int (nI sn)]) (n := 9) (Nat.le_of_ble_eq_true rfl)
  rw [lg_entry_eq]
  generalize (lg_sl ([.ref g0, .long ad, .int ac, .int md, .int (nI sn)]) ++ List.replicate (9 - (lg_sl ([.ref g0, .long ad, .int ac, .int md, .int (nI sn)])).length) Slot.unset).toArray = ls at hl ⊢
  have hl : lv_has ls 9 [(0, .ref g0), (1, .long ad), (3, .int ac), (4, .int md), (5, .int (nI sn))] := hl
  refine lv_aload_n hx hb dX2_find_0 rfl (lv_at hl 0 rfl) ?_
  refine lv_iload_n hx hb dX2_find_1 rfl (lv_at hl 2 rfl) ?_
  refine lv_iload hx hb dX2_find_2 (lv_at hl 3 rfl) ?_
  refine lv_iload hx hb dX2_find_4 (lv_at hl 4 rfl) ?_
  refine vp_callSi (W.runS (As := [.int ac, .int md, .int (nI sn)]) (rest := [.ref g0]) ⟨hx, hb, hml, hown, hts⟩ (mtX2_isAccess l ac md (nI sn)) (va_cwS 3 hts (gAll (mc1 (wa 450 (by decide +kernel) rfl) (mc1 (wa 451 (by decide +kernel) rfl) (mc1 (wa 17 (by decide +kernel) rfl) mc0))) (wa 452 (by decide +kernel) rfl) (by decide +kernel)) rfl rfl rfl (by decide +kernel) ⟨Nat.le_of_ble_eq_true rfl, Nat.le_of_ble_eq_true rfl⟩) preEq rfl rfl hl.1 rfl (lv_room (Nat.le_of_ble_eq_true rfl)) dX2_find_6 ⟨Nat.le_of_ble_eq_true rfl, Nat.le_of_ble_eq_true rfl⟩) (fun r_1 er_1 => ?_)
  have er_1 : r_1 = (b2i (m_isAccess ac md (nI sn))) := er_1
  subst er_1
  refine lv_if_eq (tgt := 25) hx hb dX2_find_9 (by decide) (fun c_2 => ?_) (fun c_2 => ?_)
  · rw [b2i_z] at c_2
    exact absurd (c_2.symm.trans h1) (by decide)
  · rw [b2i_z] at c_2
    rw [Bool.not_eq_false] at c_2
    refine lv_lload_n hx hb dX2_find_12 rfl (lv_at hl 1 rfl) ?_
    refine lv_iload hx hb dX2_find_13 (lv_at hl 4 rfl) ?_
    refine vp_callSi (W.runS (As := [.long ad, .int (nI sn)]) (rest := [.ref g0]) ⟨hx, hb, hml, hown, hts⟩ (mtX2_isWithin l ad (nI sn)) (va_cwS 2 hts (gAll (mc1 (wa 453 (by decide +kernel) rfl) (mc1 (wa 454 (by decide +kernel) rfl) (mc1 (wa 17 (by decide +kernel) rfl) mc0))) (wa 455 (by decide +kernel) rfl) (by decide +kernel)) rfl rfl rfl (by decide +kernel) ⟨Nat.le_of_ble_eq_true rfl, Nat.le_of_ble_eq_true rfl⟩) preEq rfl rfl hl.1 rfl (lv_room (Nat.le_of_ble_eq_true rfl)) dX2_find_15 ⟨Nat.le_of_ble_eq_true rfl, Nat.le_of_ble_eq_true rfl⟩) (fun r_3 er_3 => ?_)
    have er_3 : r_3 = (b2i (m_isWithin ad (nI sn))) := er_3
    subst er_3
    refine lv_if_eq (tgt := 25) hx hb dX2_find_18 (by decide) (fun c_4 => ?_) (fun c_4 => ?_)
    · rw [b2i_z] at c_4
      exact absurd (c_4.symm.trans h2) (by decide)
    · rw [b2i_z] at c_4
      rw [Bool.not_eq_false] at c_4
      refine lv_iconst (v := 0) hx hb dX2_find_21 (by decide) ?_
      refine lv_goto (tgt := 26) hx hb dX2_find_22 (by decide) ?_
      refine va_put (D := (dC, dI)) (ci := 2) (v := .int 0) (ty := .int) (C := RX2) (T := TX2) (N := 9) hx hb hts iwX2 tyX2 tyX2_ok nmX2 hown hK hP hD hS 0 rfl rfl 0 (by decide) (hts (.fieldLink RX2 20 RX2 "code" "I") (wa 355 (by decide +kernel) rfl)) (fun _ h9 => h9) rfl (by decide +kernel) rfl rfl (Nat.le_of_ble_eq_true rfl) dX2_find_26 (fun H locs hP hD hS => ?_)
      have hP : va_P (dC, dI) vwCl [(g0, .inr (2, [.int 0, .ref gm, .long tb, .int (b2i su), .int (b2i mx), .ref gc, .ref gn, .long fr, .long tt])), (gm, .inl (cL, 8192, .inr (.inl w))), (gc, .inl (cI, 8, .inl cf)), (gn, .inl (cL, 8, .inr (.inl nu)))] H := hP
      have hD : va_D A [(g0, .inr (2, [.int 0, .ref gm, .long tb, .int (b2i su), .int (b2i mx), .ref gc, .ref gn, .long fr, .long tt])), (gm, .inl (cL, 8192, .inr (.inl w))), (gc, .inl (cI, 8, .inl cf)), (gn, .inl (cL, 8, .inr (.inl nu)))] := hD
      refine lv_aload_n hx hb dX2_find_29 rfl (lv_at hl 0 rfl) ?_
      refine va_get (D := (dC, dI)) (ci := 2) (v := .int 0) (C := RX2) (T := TX2) (N := 9) hx hb hts iwX2 hown hK hP 0 rfl rfl 0 (by decide) (hts (.fieldLink RX2 20 RX2 "code" "I") (wa 355 (by decide +kernel) rfl)) (fun _ h9 => h9) rfl dX2_find_30 ?_
      refine lv_if_le (tgt := 38) hx hb dX2_find_33 (by decide) (fun c_5 => ?_) (fun c_5 => ?_)
      · refine lv_iload hx hb dX2_find_38 (lv_at hl 3 rfl) ?_
        refine lv_iconst (v := 3) hx hb dX2_find_40 (by decide) ?_
        refine lv_icmp_eq (tgt := 56) hx hb dX2_find_41 (by decide) (fun c_6 => ?_) (fun c_6 => ?_)
        · refine lv_iconst (v := 1) hx hb dX2_find_56 (by decide) ?_
          refine lv_goto (tgt := 61) hx hb dX2_find_57 (by decide) ?_
          refine lv_istore (lv' := [(6, .int 1), (0, .ref g0), (1, .long ad), (3, .int ac), (4, .int md), (5, .int (nI sn))]) hx hb dX2_find_61 hl (by decide) rfl (fun ls hl => ?_)
          refine lv_iload hx hb dX2_find_63 (lv_at hl 0 rfl) ?_
          refine lv_if_eq (tgt := 82) hx hb dX2_find_65 (by decide) (fun c_7 => ?_) (fun c_7 => ?_)
          · first | exact absurd c_7 (by decide) | exact absurd (by decide) c_7
          · refine lv_lload_n hx hb dX2_find_68 rfl (lv_at hl 2 rfl) ?_
            refine lv_bipush (v := 56) hx hb dX2_find_69 (by decide) ?_
            refine lv_lushr (v := (k_ush ad 56)) hx hb dX2_find_71 rfl ?_
            refine lv_lconst (v := 0) hx hb dX2_find_72 (by decide) ?_
            refine W.lcmp hx hb dX2_find_73 ?_
            refine lv_if_eq (tgt := 82) hx hb dX2_find_74 (by decide) (fun c_8 => ?_) (fun c_8 => ?_)
            · rw [lg_cmp_eq] at c_8
              refine lv_iload hx hb dX2_find_82 (lv_at hl 0 rfl) ?_
              refine lv_if_eq (tgt := 91) hx hb dX2_find_84 (by decide) (fun c_9 => ?_) (fun c_9 => ?_)
              · first | exact absurd c_9 (by decide) | exact absurd (by decide) c_9
              · refine lv_lload_n hx hb dX2_find_87 rfl (lv_at hl 2 rfl) ?_
                refine lv_goto (tgt := 99) hx hb dX2_find_88 (by decide) ?_
                refine lv_lstore (lv' := [(7, .long ad), (6, .int 1), (0, .ref g0), (1, .long ad), (3, .int ac), (4, .int md), (5, .int (nI sn))]) hx hb dX2_find_99 hl (by decide) rfl (fun ls hl => ?_)
                refine lv_lload hx hb dX2_find_101 (lv_at hl 0 rfl) ?_
                refine lv_lconst (v := 0) hx hb dX2_find_103 (by decide) ?_
                refine W.lcmp hx hb dX2_find_104 ?_
                refine lv_if_lt (tgt := 122) hx hb dX2_find_105 (by decide) (fun c_10 => ?_) (fun c_10 => ?_)
                · rw [lg_cmp_lt] at c_10
                  refine lv_lload hx hb dX2_find_122 (lv_at hl 0 rfl) ?_
                  refine lv_goto (tgt := 131) hx hb dX2_find_124 (by decide) ?_
                  have w9_0 : (k_find w tb su mx cf nu ad ac md (nI sn)).2 = w := (by first | rfl | (simp only [k_find, tr_eq, k_isPhysical, ← sort0, c_2, c_4, eq_true c_6, eq_true c_8, c_10, b2i, decide_true, decide_false, Bool.not_true, Bool.not_false, Bool.and_true, Bool.and_false, Bool.true_and, Bool.false_and, Bool.or_true, Bool.or_false, Bool.true_or, Bool.false_or, reduceIte, or_true, true_or, or_false, false_or, and_true, true_and, and_false, false_and, not_true_eq_false, not_false_eq_true, Bool.false_eq_true, eq_self]; done) | (simp [k_find, tr_eq, k_isPhysical, ← sort0, c_2, c_4, eq_true c_6, eq_true c_8, c_10]; done) | (simp only [k_find, tr_eq, k_isPhysical, ← sort0, c_2, c_4, c_6, c_8, c_10, b2i, decide_true, decide_false, Bool.not_true, Bool.not_false, Bool.and_true, Bool.and_false, Bool.true_and, Bool.false_and, Bool.or_true, Bool.or_false, Bool.true_or, Bool.false_or, reduceIte, or_true, true_or, or_false, false_or, and_true, true_and, and_false, false_and, not_true_eq_false, not_false_eq_true, Bool.false_eq_true, eq_self]; done) | (simp [k_find, tr_eq, k_isPhysical, ← sort0, c_2, c_4, c_6, c_8, c_10]; done))
                  have hP9 : va_P (dC, dI) vwCl (wMD cL cI g0 gm gc gn 0 (k_find w tb su mx cf nu ad ac md (nI sn)).2 tb su mx cf nu fr tt) H := (by rw [w9_0]; exact hP)
                  have hD9 : va_D A (wMD cL cI g0 gm gc gn 0 (k_find w tb su mx cf nu ad ac md (nI sn)).2 tb su mx cf nu fr tt) := (by rw [w9_0]; exact hD)
                  exact W.lret (v := ad) hx hb hr (fun t ht hW => ⟨⟨ad, (fr, tt), rfl, (by first | rfl | (simp only [k_find, tr_eq, k_isPhysical, ← sort0, c_2, c_4, eq_true c_6, eq_true c_8, c_10, b2i, decide_true, decide_false, Bool.not_true, Bool.not_false, Bool.and_true, Bool.and_false, Bool.true_and, Bool.false_and, Bool.or_true, Bool.or_false, Bool.true_or, Bool.false_or, reduceIte, or_true, true_or, or_false, false_or, and_true, true_and, and_false, false_and, not_true_eq_false, not_false_eq_true, Bool.false_eq_true, eq_self]; done) | (simp [k_find, tr_eq, k_isPhysical, ← sort0, c_2, c_4, eq_true c_6, eq_true c_8, c_10]; done) | (simp only [k_find, tr_eq, k_isPhysical, ← sort0, c_2, c_4, c_6, c_8, c_10, b2i, decide_true, decide_false, Bool.not_true, Bool.not_false, Bool.and_true, Bool.and_false, Bool.true_and, Bool.false_and, Bool.or_true, Bool.or_false, Bool.true_or, Bool.false_or, reduceIte, or_true, true_or, or_false, false_or, and_true, true_and, and_false, false_and, not_true_eq_false, not_false_eq_true, Bool.false_eq_true, eq_self]; done) | (simp [k_find, tr_eq, k_isPhysical, ← sort0, c_2, c_4, c_6, c_8, c_10]; done)), (by rw [ht]; exact hP9), va_K.moved hW.alike hK, hD9⟩, hS.F ht⟩) hS.2.2 dX2_find_131
                · rw [lg_cmp_lt] at c_10
                  refine lv_aload_n hx hb dX2_find_108 rfl (lv_at hl 2 rfl) ?_
                  refine lv_lload hx hb dX2_find_109 (lv_at hl 0 rfl) ?_
                  refine lv_iload_n hx hb dX2_find_111 rfl (lv_at hl 4 rfl) ?_
                  refine lv_iload hx hb dX2_find_112 (lv_at hl 5 rfl) ?_
                  refine lv_iload hx hb dX2_find_114 (lv_at hl 6 rfl) ?_
                  have hPc := hP.sub (ws' := (wMD cL cI g0 gm gc gn 0 w tb su mx cf nu fr tt)) [0, 1, 2, 3] rfl
                  have hDc := hD.sub (ws' := (wMD cL cI g0 gm gc gn 0 w tb su mx cf nu fr tt)) [0, 1, 2, 3] (by decide) rfl
                  have hFc := va_free (wc := (wMD cL cI g0 gm gc gn 0 w tb su mx cf nu fr tt)) hD hS hA [0, 1, 2, 3] rfl
                  refine va_calli (va_runV (As := [.long ad, .int ac, .int md, .int (nI sn)]) (rest := []) ⟨hx, hb, hml, hown, hts⟩ (mtX2_isLet l dC dI cL cI g0 gm gc gn 0 w tb su mx cf nu fr tt H.size ad ac md sn (phys_ok c_8) (hS8) (hn) (hc)) (cwV 4 hts (gAll (mc1 (wa 458 (by decide +kernel) rfl) (mc1 (wa 460 (by decide +kernel) rfl) (mc1 (wa 9 (by decide +kernel) rfl) (mc1 (wa 17 (by decide +kernel) rfl) mc0)))) (wa 461 (by decide +kernel) rfl) (by decide +kernel)) rfl rfl rfl (by decide +kernel) ⟨Nat.le_of_ble_eq_true rfl, Nat.le_of_ble_eq_true rfl⟩) (mu_pre (ci := 2) (q0 := 0) hK hPc hDc rfl rfl) rfl rfl hl.1 rfl (lv_room (Nat.le_of_ble_eq_true rfl)) dX2_find_116 ⟨Nat.le_of_ble_eq_true rfl, Nat.le_of_ble_eq_true rfl⟩) hS (fun q _ h => hFc q h) hFc (fun v_11 r_11 t H1 locs ht hvm hpo hB hz1 hk1 hS => ?_)
                  obtain ⟨hP1, hK1, hD1⟩ := hB
                  rw [ht] at hP1
                  obtain ⟨hP, hD⟩ := va_join (wr := []) (w1 := (wMD cL cI g0 gm gc gn 0 w tb su mx cf nu r_11.1 r_11.2)) hP hD [0, 1, 2, 3] [] rfl rfl (by decide) (by decide) hk1 hFc hP1 hD1
                  generalize H1 = H at hP hS ⊢
                  have hP : va_P (dC, dI) vwCl [(g0, .inr (2, [.int 0, .ref gm, .long tb, .int (b2i su), .int (b2i mx), .ref gc, .ref gn, .long r_11.1, .long r_11.2])), (gm, .inl (cL, 8192, .inr (.inl w))), (gc, .inl (cI, 8, .inl cf)), (gn, .inl (cL, 8, .inr (.inl nu)))] H := hP
                  have hD : va_D A [(g0, .inr (2, [.int 0, .ref gm, .long tb, .int (b2i su), .int (b2i mx), .ref gc, .ref gn, .long r_11.1, .long r_11.2])), (gm, .inl (cL, 8192, .inr (.inl w))), (gc, .inl (cI, 8, .inl cf)), (gn, .inl (cL, 8, .inr (.inl nu)))] := hD
                  have ev_11 : v_11 = (b2i (k_let cf nu ad ac md (nI sn))) := hpo
                  subst ev_11
                  refine lv_if_eq (tgt := 127) hx hb dX2_find_119 (by decide) (fun c_12 => ?_) (fun c_12 => ?_)
                  · rw [b2i_z] at c_12
                    refine lv_iload_n hx hb dX2_find_127 rfl (lv_at hl 4 rfl) ?_
                    refine vp_callSl (W.runS (As := [.int ac]) (rest := []) ⟨hx, hb, hml, hown, hts⟩ (mtX2_accessFault l ac) (va_cwS 1 hts (gAll (mc1 (wa 473 (by decide +kernel) rfl) (mc1 (wa 474 (by decide +kernel) rfl) (mc1 (wa 17 (by decide +kernel) rfl) mc0))) (wa 475 (by decide +kernel) rfl) (by decide +kernel)) rfl rfl rfl (by decide +kernel) ⟨Nat.le_of_ble_eq_true rfl, Nat.le_of_ble_eq_true rfl⟩) preEq rfl rfl hl.1 rfl (lv_room (Nat.le_of_ble_eq_true rfl)) dX2_find_128 ⟨Nat.le_of_ble_eq_true rfl, Nat.le_of_ble_eq_true rfl⟩) (fun r_13 er_13 => ?_)
                    have er_13 : r_13 = (k_accessFault ac) := er_13
                    subst er_13
                    have w9_0 : (k_find w tb su mx cf nu ad ac md (nI sn)).2 = w := (by first | rfl | (simp only [k_find, tr_eq, k_isPhysical, ← sort0, c_2, c_4, eq_true c_6, eq_true c_8, c_10, c_12, b2i, decide_true, decide_false, Bool.not_true, Bool.not_false, Bool.and_true, Bool.and_false, Bool.true_and, Bool.false_and, Bool.or_true, Bool.or_false, Bool.true_or, Bool.false_or, reduceIte, or_true, true_or, or_false, false_or, and_true, true_and, and_false, false_and, not_true_eq_false, not_false_eq_true, Bool.false_eq_true, eq_self]; done) | (simp [k_find, tr_eq, k_isPhysical, ← sort0, c_2, c_4, eq_true c_6, eq_true c_8, c_10, c_12]; done) | (simp only [k_find, tr_eq, k_isPhysical, ← sort0, c_2, c_4, c_6, c_8, c_10, c_12, b2i, decide_true, decide_false, Bool.not_true, Bool.not_false, Bool.and_true, Bool.and_false, Bool.true_and, Bool.false_and, Bool.or_true, Bool.or_false, Bool.true_or, Bool.false_or, reduceIte, or_true, true_or, or_false, false_or, and_true, true_and, and_false, false_and, not_true_eq_false, not_false_eq_true, Bool.false_eq_true, eq_self]; done) | (simp [k_find, tr_eq, k_isPhysical, ← sort0, c_2, c_4, c_6, c_8, c_10, c_12]; done))
                    have hP9 : va_P (dC, dI) vwCl (wMD cL cI g0 gm gc gn 0 (k_find w tb su mx cf nu ad ac md (nI sn)).2 tb su mx cf nu r_11.1 r_11.2) H := (by rw [w9_0]; exact hP)
                    have hD9 : va_D A (wMD cL cI g0 gm gc gn 0 (k_find w tb su mx cf nu ad ac md (nI sn)).2 tb su mx cf nu r_11.1 r_11.2) := (by rw [w9_0]; exact hD)
                    exact W.lret (v := (k_accessFault ac)) hx hb hr (fun t ht hW => ⟨⟨(k_accessFault ac), (r_11.1, r_11.2), rfl, (by first | rfl | (simp only [k_find, tr_eq, k_isPhysical, ← sort0, c_2, c_4, eq_true c_6, eq_true c_8, c_10, c_12, b2i, decide_true, decide_false, Bool.not_true, Bool.not_false, Bool.and_true, Bool.and_false, Bool.true_and, Bool.false_and, Bool.or_true, Bool.or_false, Bool.true_or, Bool.false_or, reduceIte, or_true, true_or, or_false, false_or, and_true, true_and, and_false, false_and, not_true_eq_false, not_false_eq_true, Bool.false_eq_true, eq_self]; done) | (simp [k_find, tr_eq, k_isPhysical, ← sort0, c_2, c_4, eq_true c_6, eq_true c_8, c_10, c_12]; done) | (simp only [k_find, tr_eq, k_isPhysical, ← sort0, c_2, c_4, c_6, c_8, c_10, c_12, b2i, decide_true, decide_false, Bool.not_true, Bool.not_false, Bool.and_true, Bool.and_false, Bool.true_and, Bool.false_and, Bool.or_true, Bool.or_false, Bool.true_or, Bool.false_or, reduceIte, or_true, true_or, or_false, false_or, and_true, true_and, and_false, false_and, not_true_eq_false, not_false_eq_true, Bool.false_eq_true, eq_self]; done) | (simp [k_find, tr_eq, k_isPhysical, ← sort0, c_2, c_4, c_6, c_8, c_10, c_12]; done)), (by rw [ht]; exact hP9), va_K.moved hW.alike hK, hD9⟩, hS.F ht⟩) hS.2.2 dX2_find_131
                  · rw [b2i_z] at c_12
                    rw [Bool.not_eq_false] at c_12
                    refine lv_lload hx hb dX2_find_122 (lv_at hl 0 rfl) ?_
                    refine lv_goto (tgt := 131) hx hb dX2_find_124 (by decide) ?_
                    have w9_0 : (k_find w tb su mx cf nu ad ac md (nI sn)).2 = w := (by first | rfl | (simp only [k_find, tr_eq, k_isPhysical, ← sort0, c_2, c_4, eq_true c_6, eq_true c_8, c_10, c_12, b2i, decide_true, decide_false, Bool.not_true, Bool.not_false, Bool.and_true, Bool.and_false, Bool.true_and, Bool.false_and, Bool.or_true, Bool.or_false, Bool.true_or, Bool.false_or, reduceIte, or_true, true_or, or_false, false_or, and_true, true_and, and_false, false_and, not_true_eq_false, not_false_eq_true, Bool.false_eq_true, eq_self]; done) | (simp [k_find, tr_eq, k_isPhysical, ← sort0, c_2, c_4, eq_true c_6, eq_true c_8, c_10, c_12]; done) | (simp only [k_find, tr_eq, k_isPhysical, ← sort0, c_2, c_4, c_6, c_8, c_10, c_12, b2i, decide_true, decide_false, Bool.not_true, Bool.not_false, Bool.and_true, Bool.and_false, Bool.true_and, Bool.false_and, Bool.or_true, Bool.or_false, Bool.true_or, Bool.false_or, reduceIte, or_true, true_or, or_false, false_or, and_true, true_and, and_false, false_and, not_true_eq_false, not_false_eq_true, Bool.false_eq_true, eq_self]; done) | (simp [k_find, tr_eq, k_isPhysical, ← sort0, c_2, c_4, c_6, c_8, c_10, c_12]; done))
                    have hP9 : va_P (dC, dI) vwCl (wMD cL cI g0 gm gc gn 0 (k_find w tb su mx cf nu ad ac md (nI sn)).2 tb su mx cf nu r_11.1 r_11.2) H := (by rw [w9_0]; exact hP)
                    have hD9 : va_D A (wMD cL cI g0 gm gc gn 0 (k_find w tb su mx cf nu ad ac md (nI sn)).2 tb su mx cf nu r_11.1 r_11.2) := (by rw [w9_0]; exact hD)
                    exact W.lret (v := ad) hx hb hr (fun t ht hW => ⟨⟨ad, (r_11.1, r_11.2), rfl, (by first | rfl | (simp only [k_find, tr_eq, k_isPhysical, ← sort0, c_2, c_4, eq_true c_6, eq_true c_8, c_10, c_12, b2i, decide_true, decide_false, Bool.not_true, Bool.not_false, Bool.and_true, Bool.and_false, Bool.true_and, Bool.false_and, Bool.or_true, Bool.or_false, Bool.true_or, Bool.false_or, reduceIte, or_true, true_or, or_false, false_or, and_true, true_and, and_false, false_and, not_true_eq_false, not_false_eq_true, Bool.false_eq_true, eq_self]; done) | (simp [k_find, tr_eq, k_isPhysical, ← sort0, c_2, c_4, eq_true c_6, eq_true c_8, c_10, c_12]; done) | (simp only [k_find, tr_eq, k_isPhysical, ← sort0, c_2, c_4, c_6, c_8, c_10, c_12, b2i, decide_true, decide_false, Bool.not_true, Bool.not_false, Bool.and_true, Bool.and_false, Bool.true_and, Bool.false_and, Bool.or_true, Bool.or_false, Bool.true_or, Bool.false_or, reduceIte, or_true, true_or, or_false, false_or, and_true, true_and, and_false, false_and, not_true_eq_false, not_false_eq_true, Bool.false_eq_true, eq_self]; done) | (simp [k_find, tr_eq, k_isPhysical, ← sort0, c_2, c_4, c_6, c_8, c_10, c_12]; done)), (by rw [ht]; exact hP9), va_K.moved hW.alike hK, hD9⟩, hS.F ht⟩) hS.2.2 dX2_find_131
            · rw [lg_cmp_eq] at c_8
              refine lv_iload_n hx hb dX2_find_77 rfl (lv_at hl 3 rfl) ?_
              refine vp_callSl (W.runS (As := [.int ac]) (rest := []) ⟨hx, hb, hml, hown, hts⟩ (mtX2_accessFault l ac) (va_cwS 1 hts (gAll (mc1 (wa 473 (by decide +kernel) rfl) (mc1 (wa 474 (by decide +kernel) rfl) (mc1 (wa 17 (by decide +kernel) rfl) mc0))) (wa 475 (by decide +kernel) rfl) (by decide +kernel)) rfl rfl rfl (by decide +kernel) ⟨Nat.le_of_ble_eq_true rfl, Nat.le_of_ble_eq_true rfl⟩) preEq rfl rfl hl.1 rfl (lv_room (Nat.le_of_ble_eq_true rfl)) dX2_find_78 ⟨Nat.le_of_ble_eq_true rfl, Nat.le_of_ble_eq_true rfl⟩) (fun r_14 er_14 => ?_)
              have er_14 : r_14 = (k_accessFault ac) := er_14
              subst er_14
              have w9_0 : (k_find w tb su mx cf nu ad ac md (nI sn)).2 = w := (by first | rfl | (simp only [k_find, tr_eq, k_isPhysical, ← sort0, c_2, c_4, eq_true c_6, c_8, b2i, decide_true, decide_false, Bool.not_true, Bool.not_false, Bool.and_true, Bool.and_false, Bool.true_and, Bool.false_and, Bool.or_true, Bool.or_false, Bool.true_or, Bool.false_or, reduceIte, or_true, true_or, or_false, false_or, and_true, true_and, and_false, false_and, not_true_eq_false, not_false_eq_true, Bool.false_eq_true, eq_self]; done) | (simp [k_find, tr_eq, k_isPhysical, ← sort0, c_2, c_4, eq_true c_6, c_8]; done) | (simp only [k_find, tr_eq, k_isPhysical, ← sort0, c_2, c_4, c_6, c_8, b2i, decide_true, decide_false, Bool.not_true, Bool.not_false, Bool.and_true, Bool.and_false, Bool.true_and, Bool.false_and, Bool.or_true, Bool.or_false, Bool.true_or, Bool.false_or, reduceIte, or_true, true_or, or_false, false_or, and_true, true_and, and_false, false_and, not_true_eq_false, not_false_eq_true, Bool.false_eq_true, eq_self]; done) | (simp [k_find, tr_eq, k_isPhysical, ← sort0, c_2, c_4, c_6, c_8]; done))
              have hP9 : va_P (dC, dI) vwCl (wMD cL cI g0 gm gc gn 0 (k_find w tb su mx cf nu ad ac md (nI sn)).2 tb su mx cf nu fr tt) H := (by rw [w9_0]; exact hP)
              have hD9 : va_D A (wMD cL cI g0 gm gc gn 0 (k_find w tb su mx cf nu ad ac md (nI sn)).2 tb su mx cf nu fr tt) := (by rw [w9_0]; exact hD)
              exact W.lret (v := (k_accessFault ac)) hx hb hr (fun t ht hW => ⟨⟨(k_accessFault ac), (fr, tt), rfl, (by first | rfl | (simp only [k_find, tr_eq, k_isPhysical, ← sort0, c_2, c_4, eq_true c_6, c_8, b2i, decide_true, decide_false, Bool.not_true, Bool.not_false, Bool.and_true, Bool.and_false, Bool.true_and, Bool.false_and, Bool.or_true, Bool.or_false, Bool.true_or, Bool.false_or, reduceIte, or_true, true_or, or_false, false_or, and_true, true_and, and_false, false_and, not_true_eq_false, not_false_eq_true, Bool.false_eq_true, eq_self]; done) | (simp [k_find, tr_eq, k_isPhysical, ← sort0, c_2, c_4, eq_true c_6, c_8]; done) | (simp only [k_find, tr_eq, k_isPhysical, ← sort0, c_2, c_4, c_6, c_8, b2i, decide_true, decide_false, Bool.not_true, Bool.not_false, Bool.and_true, Bool.and_false, Bool.true_and, Bool.false_and, Bool.or_true, Bool.or_false, Bool.true_or, Bool.false_or, reduceIte, or_true, true_or, or_false, false_or, and_true, true_and, and_false, false_and, not_true_eq_false, not_false_eq_true, Bool.false_eq_true, eq_self]; done) | (simp [k_find, tr_eq, k_isPhysical, ← sort0, c_2, c_4, c_6, c_8]; done)), (by rw [ht]; exact hP9), va_K.moved hW.alike hK, hD9⟩, hS.F ht⟩) hS.2.2 dX2_find_81
        · refine lv_aload_n hx hb dX2_find_44 rfl (lv_at hl 0 rfl) ?_
          refine va_get (D := (dC, dI)) (ci := 2) (v := .long tb) (C := RX2) (T := TX2) (N := 9) hx hb hts iwX2 hown hK hP 0 rfl rfl 2 (by decide) (hts (.fieldLink RX2 38 RX2 "table" "J") (wa 357 (by decide +kernel) rfl)) (fun _ h9 => h9) rfl dX2_find_45 ?_
          refine vp_callSl (W.runS (As := [.long tb]) (rest := []) ⟨hx, hb, hml, hown, hts⟩ (mtX2_sortOf l tb) (va_cwS 1 hts (gAll (mc1 (wa 412 (by decide +kernel) rfl) (mc1 (wa 413 (by decide +kernel) rfl) (mc1 (wa 17 (by decide +kernel) rfl) mc0))) (wa 414 (by decide +kernel) rfl) (by decide +kernel)) rfl rfl rfl (by decide +kernel) ⟨Nat.le_of_ble_eq_true rfl, Nat.le_of_ble_eq_true rfl⟩) preEq rfl rfl hl.1 rfl (lv_room (Nat.le_of_ble_eq_true rfl)) dX2_find_48 ⟨Nat.le_of_ble_eq_true rfl, Nat.le_of_ble_eq_true rfl⟩) (fun r_15 er_15 => ?_)
          have er_15 : r_15 = (k_ush tb 60) := er_15
          subst er_15
          refine lv_lconst (v := 0) hx hb dX2_find_51 (by decide) ?_
          refine W.lcmp hx hb dX2_find_52 ?_
          refine lv_if_ne (tgt := 60) hx hb dX2_find_53 (by decide) (fun c_16 => ?_) (fun c_16 => ?_)
          · rw [lg_cmp_eq] at c_16
            refine lv_iconst (v := 0) hx hb dX2_find_60 (by decide) ?_
            refine lv_istore (lv' := [(6, .int 0), (0, .ref g0), (1, .long ad), (3, .int ac), (4, .int md), (5, .int (nI sn))]) hx hb dX2_find_61 hl (by decide) rfl (fun ls hl => ?_)
            refine lv_iload hx hb dX2_find_63 (lv_at hl 0 rfl) ?_
            refine lv_if_eq (tgt := 82) hx hb dX2_find_65 (by decide) (fun c_17 => ?_) (fun c_17 => ?_)
            · refine lv_iload hx hb dX2_find_82 (lv_at hl 0 rfl) ?_
              refine lv_if_eq (tgt := 91) hx hb dX2_find_84 (by decide) (fun c_18 => ?_) (fun c_18 => ?_)
              · refine lv_aload_n hx hb dX2_find_91 rfl (lv_at hl 1 rfl) ?_
                refine lv_lload_n hx hb dX2_find_92 rfl (lv_at hl 2 rfl) ?_
                refine lv_iload_n hx hb dX2_find_93 rfl (lv_at hl 3 rfl) ?_
                refine lv_iload hx hb dX2_find_94 (lv_at hl 4 rfl) ?_
                have hPc := hP.sub (ws' := (wMD cL cI g0 gm gc gn 0 w tb su mx cf nu fr tt)) [0, 1, 2, 3] rfl
                have hDc := hD.sub (ws' := (wMD cL cI g0 gm gc gn 0 w tb su mx cf nu fr tt)) [0, 1, 2, 3] (by decide) rfl
                have hFc := va_free (wc := (wMD cL cI g0 gm gc gn 0 w tb su mx cf nu fr tt)) hD hS hA [0, 1, 2, 3] rfl
                refine va_calll (va_runV (As := [.long ad, .int ac, .int md]) (rest := []) ⟨hx, hb, hml, hown, hts⟩ (mtX2_walk l dC dI cL cI g0 gm gc gn 0 w tb su mx cf nu fr tt H.size ad ac md (hn) (hc) (md01 hmd c_6) (hac)) (cwV 3 hts (gAll (mc1 (wa 479 (by decide +kernel) rfl) (mc1 (wa 481 (by decide +kernel) rfl) (mc1 (wa 11 (by decide +kernel) rfl) (mc1 (wa 17 (by decide +kernel) rfl) mc0)))) (wa 482 (by decide +kernel) rfl) (by decide +kernel)) rfl rfl rfl (by decide +kernel) ⟨Nat.le_of_ble_eq_true rfl, Nat.le_of_ble_eq_true rfl⟩) (mu_pre (ci := 2) (q0 := 0) hK hPc hDc rfl rfl) rfl rfl hl.1 rfl (lv_room (Nat.le_of_ble_eq_true rfl)) dX2_find_96 ⟨Nat.le_of_ble_eq_true rfl, Nat.le_of_ble_eq_true rfl⟩) hS (fun q _ h => hFc q h) hFc (fun v_19 r_19 t H1 locs ht hvm hpo hB hz1 hk1 hS => ?_)
                obtain ⟨hP1, hK1, hD1⟩ := hB
                rw [ht] at hP1
                obtain ⟨hP, hD⟩ := va_join (wr := []) (w1 := (wMD cL cI g0 gm gc gn 0 (k_walk0 w tb su mx cf nu ad ac md).2 tb su mx cf nu r_19.1 r_19.2)) hP hD [0, 1, 2, 3] [] rfl rfl (by decide) (by decide) hk1 hFc hP1 hD1
                generalize H1 = H at hP hS ⊢
                have hP : va_P (dC, dI) vwCl [(g0, .inr (2, [.int 0, .ref gm, .long tb, .int (b2i su), .int (b2i mx), .ref gc, .ref gn, .long r_19.1, .long r_19.2])), (gm, .inl (cL, 8192, .inr (.inl (k_walk0 w tb su mx cf nu ad ac md).2))), (gc, .inl (cI, 8, .inl cf)), (gn, .inl (cL, 8, .inr (.inl nu)))] H := hP
                have hD : va_D A [(g0, .inr (2, [.int 0, .ref gm, .long tb, .int (b2i su), .int (b2i mx), .ref gc, .ref gn, .long r_19.1, .long r_19.2])), (gm, .inl (cL, 8192, .inr (.inl (k_walk0 w tb su mx cf nu ad ac md).2))), (gc, .inl (cI, 8, .inl cf)), (gn, .inl (cL, 8, .inr (.inl nu)))] := hD
                have ev_19 : v_19 = (k_walk0 w tb su mx cf nu ad ac md).1 := hpo
                subst ev_19
                refine lv_lstore (lv' := [(7, .long (k_walk0 w tb su mx cf nu ad ac md).1), (6, .int 0), (0, .ref g0), (1, .long ad), (3, .int ac), (4, .int md), (5, .int (nI sn))]) hx hb dX2_find_99 hl (by decide) rfl (fun ls hl => ?_)
                refine lv_lload hx hb dX2_find_101 (lv_at hl 0 rfl) ?_
                refine lv_lconst (v := 0) hx hb dX2_find_103 (by decide) ?_
                refine W.lcmp hx hb dX2_find_104 ?_
                refine lv_if_lt (tgt := 122) hx hb dX2_find_105 (by decide) (fun c_20 => ?_) (fun c_20 => ?_)
                · rw [lg_cmp_lt] at c_20
                  refine lv_lload hx hb dX2_find_122 (lv_at hl 0 rfl) ?_
                  refine lv_goto (tgt := 131) hx hb dX2_find_124 (by decide) ?_
                  have w9_0 : (k_find w tb su mx cf nu ad ac md (nI sn)).2 = (k_walk0 w tb su mx cf nu ad ac md).2 := (by first | rfl | (simp only [k_find, tr_eq, k_isPhysical, ← sort0, c_2, c_4, c_6, c_16, c_20, b2i, decide_true, decide_false, Bool.not_true, Bool.not_false, Bool.and_true, Bool.and_false, Bool.true_and, Bool.false_and, Bool.or_true, Bool.or_false, Bool.true_or, Bool.false_or, reduceIte, or_true, true_or, or_false, false_or, and_true, true_and, and_false, false_and, not_true_eq_false, not_false_eq_true, Bool.false_eq_true, eq_self]; done) | (simp [k_find, tr_eq, k_isPhysical, ← sort0, c_2, c_4, c_6, c_16, c_20]; done))
                  have hP9 : va_P (dC, dI) vwCl (wMD cL cI g0 gm gc gn 0 (k_find w tb su mx cf nu ad ac md (nI sn)).2 tb su mx cf nu r_19.1 r_19.2) H := (by rw [w9_0]; exact hP)
                  have hD9 : va_D A (wMD cL cI g0 gm gc gn 0 (k_find w tb su mx cf nu ad ac md (nI sn)).2 tb su mx cf nu r_19.1 r_19.2) := (by rw [w9_0]; exact hD)
                  exact W.lret (v := (k_walk0 w tb su mx cf nu ad ac md).1) hx hb hr (fun t ht hW => ⟨⟨(k_walk0 w tb su mx cf nu ad ac md).1, (r_19.1, r_19.2), rfl, (by first | rfl | (simp only [k_find, tr_eq, k_isPhysical, ← sort0, c_2, c_4, c_6, c_16, c_20, b2i, decide_true, decide_false, Bool.not_true, Bool.not_false, Bool.and_true, Bool.and_false, Bool.true_and, Bool.false_and, Bool.or_true, Bool.or_false, Bool.true_or, Bool.false_or, reduceIte, or_true, true_or, or_false, false_or, and_true, true_and, and_false, false_and, not_true_eq_false, not_false_eq_true, Bool.false_eq_true, eq_self]; done) | (simp [k_find, tr_eq, k_isPhysical, ← sort0, c_2, c_4, c_6, c_16, c_20]; done)), (by rw [ht]; exact hP9), va_K.moved hW.alike hK, hD9⟩, hS.F ht⟩) hS.2.2 dX2_find_131
                · rw [lg_cmp_lt] at c_20
                  refine lv_aload_n hx hb dX2_find_108 rfl (lv_at hl 2 rfl) ?_
                  refine lv_lload hx hb dX2_find_109 (lv_at hl 0 rfl) ?_
                  refine lv_iload_n hx hb dX2_find_111 rfl (lv_at hl 4 rfl) ?_
                  refine lv_iload hx hb dX2_find_112 (lv_at hl 5 rfl) ?_
                  refine lv_iload hx hb dX2_find_114 (lv_at hl 6 rfl) ?_
                  have hPc := hP.sub (ws' := (wMD cL cI g0 gm gc gn 0 (k_walk0 w tb su mx cf nu ad ac md).2 tb su mx cf nu r_19.1 r_19.2)) [0, 1, 2, 3] rfl
                  have hDc := hD.sub (ws' := (wMD cL cI g0 gm gc gn 0 (k_walk0 w tb su mx cf nu ad ac md).2 tb su mx cf nu r_19.1 r_19.2)) [0, 1, 2, 3] (by decide) rfl
                  have hFc := va_free (wc := (wMD cL cI g0 gm gc gn 0 (k_walk0 w tb su mx cf nu ad ac md).2 tb su mx cf nu r_19.1 r_19.2)) hD hS hA [0, 1, 2, 3] rfl
                  refine va_calli (va_runV (As := [.long (k_walk0 w tb su mx cf nu ad ac md).1, .int ac, .int md, .int (nI sn)]) (rest := []) ⟨hx, hb, hml, hown, hts⟩ (mtX2_isLet l dC dI cL cI g0 gm gc gn 0 (k_walk0 w tb su mx cf nu ad ac md).2 tb su mx cf nu r_19.1 r_19.2 H.size (k_walk0 w tb su mx cf nu ad ac md).1 ac md sn (find_ok c_20) (hS8) (hn) (hc)) (cwV 4 hts (gAll (mc1 (wa 458 (by decide +kernel) rfl) (mc1 (wa 460 (by decide +kernel) rfl) (mc1 (wa 9 (by decide +kernel) rfl) (mc1 (wa 17 (by decide +kernel) rfl) mc0)))) (wa 461 (by decide +kernel) rfl) (by decide +kernel)) rfl rfl rfl (by decide +kernel) ⟨Nat.le_of_ble_eq_true rfl, Nat.le_of_ble_eq_true rfl⟩) (mu_pre (ci := 2) (q0 := 0) hK hPc hDc rfl rfl) rfl rfl hl.1 rfl (lv_room (Nat.le_of_ble_eq_true rfl)) dX2_find_116 ⟨Nat.le_of_ble_eq_true rfl, Nat.le_of_ble_eq_true rfl⟩) hS (fun q _ h => hFc q h) hFc (fun v_21 r_21 t H1 locs ht hvm hpo hB hz1 hk1 hS => ?_)
                  obtain ⟨hP1, hK1, hD1⟩ := hB
                  rw [ht] at hP1
                  obtain ⟨hP, hD⟩ := va_join (wr := []) (w1 := (wMD cL cI g0 gm gc gn 0 (k_walk0 w tb su mx cf nu ad ac md).2 tb su mx cf nu r_21.1 r_21.2)) hP hD [0, 1, 2, 3] [] rfl rfl (by decide) (by decide) hk1 hFc hP1 hD1
                  generalize H1 = H at hP hS ⊢
                  have hP : va_P (dC, dI) vwCl [(g0, .inr (2, [.int 0, .ref gm, .long tb, .int (b2i su), .int (b2i mx), .ref gc, .ref gn, .long r_21.1, .long r_21.2])), (gm, .inl (cL, 8192, .inr (.inl (k_walk0 w tb su mx cf nu ad ac md).2))), (gc, .inl (cI, 8, .inl cf)), (gn, .inl (cL, 8, .inr (.inl nu)))] H := hP
                  have hD : va_D A [(g0, .inr (2, [.int 0, .ref gm, .long tb, .int (b2i su), .int (b2i mx), .ref gc, .ref gn, .long r_21.1, .long r_21.2])), (gm, .inl (cL, 8192, .inr (.inl (k_walk0 w tb su mx cf nu ad ac md).2))), (gc, .inl (cI, 8, .inl cf)), (gn, .inl (cL, 8, .inr (.inl nu)))] := hD
                  have ev_21 : v_21 = (b2i (k_let cf nu (k_walk0 w tb su mx cf nu ad ac md).1 ac md (nI sn))) := hpo
                  subst ev_21
                  refine lv_if_eq (tgt := 127) hx hb dX2_find_119 (by decide) (fun c_22 => ?_) (fun c_22 => ?_)
                  · rw [b2i_z] at c_22
                    refine lv_iload_n hx hb dX2_find_127 rfl (lv_at hl 4 rfl) ?_
                    refine vp_callSl (W.runS (As := [.int ac]) (rest := []) ⟨hx, hb, hml, hown, hts⟩ (mtX2_accessFault l ac) (va_cwS 1 hts (gAll (mc1 (wa 473 (by decide +kernel) rfl) (mc1 (wa 474 (by decide +kernel) rfl) (mc1 (wa 17 (by decide +kernel) rfl) mc0))) (wa 475 (by decide +kernel) rfl) (by decide +kernel)) rfl rfl rfl (by decide +kernel) ⟨Nat.le_of_ble_eq_true rfl, Nat.le_of_ble_eq_true rfl⟩) preEq rfl rfl hl.1 rfl (lv_room (Nat.le_of_ble_eq_true rfl)) dX2_find_128 ⟨Nat.le_of_ble_eq_true rfl, Nat.le_of_ble_eq_true rfl⟩) (fun r_23 er_23 => ?_)
                    have er_23 : r_23 = (k_accessFault ac) := er_23
                    subst er_23
                    have w9_0 : (k_find w tb su mx cf nu ad ac md (nI sn)).2 = (k_walk0 w tb su mx cf nu ad ac md).2 := (by first | rfl | (simp only [k_find, tr_eq, k_isPhysical, ← sort0, c_2, c_4, c_6, c_16, c_20, c_22, b2i, decide_true, decide_false, Bool.not_true, Bool.not_false, Bool.and_true, Bool.and_false, Bool.true_and, Bool.false_and, Bool.or_true, Bool.or_false, Bool.true_or, Bool.false_or, reduceIte, or_true, true_or, or_false, false_or, and_true, true_and, and_false, false_and, not_true_eq_false, not_false_eq_true, Bool.false_eq_true, eq_self]; done) | (simp [k_find, tr_eq, k_isPhysical, ← sort0, c_2, c_4, c_6, c_16, c_20, c_22]; done))
                    have hP9 : va_P (dC, dI) vwCl (wMD cL cI g0 gm gc gn 0 (k_find w tb su mx cf nu ad ac md (nI sn)).2 tb su mx cf nu r_21.1 r_21.2) H := (by rw [w9_0]; exact hP)
                    have hD9 : va_D A (wMD cL cI g0 gm gc gn 0 (k_find w tb su mx cf nu ad ac md (nI sn)).2 tb su mx cf nu r_21.1 r_21.2) := (by rw [w9_0]; exact hD)
                    exact W.lret (v := (k_accessFault ac)) hx hb hr (fun t ht hW => ⟨⟨(k_accessFault ac), (r_21.1, r_21.2), rfl, (by first | rfl | (simp only [k_find, tr_eq, k_isPhysical, ← sort0, c_2, c_4, c_6, c_16, c_20, c_22, b2i, decide_true, decide_false, Bool.not_true, Bool.not_false, Bool.and_true, Bool.and_false, Bool.true_and, Bool.false_and, Bool.or_true, Bool.or_false, Bool.true_or, Bool.false_or, reduceIte, or_true, true_or, or_false, false_or, and_true, true_and, and_false, false_and, not_true_eq_false, not_false_eq_true, Bool.false_eq_true, eq_self]; done) | (simp [k_find, tr_eq, k_isPhysical, ← sort0, c_2, c_4, c_6, c_16, c_20, c_22]; done)), (by rw [ht]; exact hP9), va_K.moved hW.alike hK, hD9⟩, hS.F ht⟩) hS.2.2 dX2_find_131
                  · rw [b2i_z] at c_22
                    rw [Bool.not_eq_false] at c_22
                    refine lv_lload hx hb dX2_find_122 (lv_at hl 0 rfl) ?_
                    refine lv_goto (tgt := 131) hx hb dX2_find_124 (by decide) ?_
                    have w9_0 : (k_find w tb su mx cf nu ad ac md (nI sn)).2 = (k_walk0 w tb su mx cf nu ad ac md).2 := (by first | rfl | (simp only [k_find, tr_eq, k_isPhysical, ← sort0, c_2, c_4, c_6, c_16, c_20, c_22, b2i, decide_true, decide_false, Bool.not_true, Bool.not_false, Bool.and_true, Bool.and_false, Bool.true_and, Bool.false_and, Bool.or_true, Bool.or_false, Bool.true_or, Bool.false_or, reduceIte, or_true, true_or, or_false, false_or, and_true, true_and, and_false, false_and, not_true_eq_false, not_false_eq_true, Bool.false_eq_true, eq_self]; done) | (simp [k_find, tr_eq, k_isPhysical, ← sort0, c_2, c_4, c_6, c_16, c_20, c_22]; done))
                    have hP9 : va_P (dC, dI) vwCl (wMD cL cI g0 gm gc gn 0 (k_find w tb su mx cf nu ad ac md (nI sn)).2 tb su mx cf nu r_21.1 r_21.2) H := (by rw [w9_0]; exact hP)
                    have hD9 : va_D A (wMD cL cI g0 gm gc gn 0 (k_find w tb su mx cf nu ad ac md (nI sn)).2 tb su mx cf nu r_21.1 r_21.2) := (by rw [w9_0]; exact hD)
                    exact W.lret (v := (k_walk0 w tb su mx cf nu ad ac md).1) hx hb hr (fun t ht hW => ⟨⟨(k_walk0 w tb su mx cf nu ad ac md).1, (r_21.1, r_21.2), rfl, (by first | rfl | (simp only [k_find, tr_eq, k_isPhysical, ← sort0, c_2, c_4, c_6, c_16, c_20, c_22, b2i, decide_true, decide_false, Bool.not_true, Bool.not_false, Bool.and_true, Bool.and_false, Bool.true_and, Bool.false_and, Bool.or_true, Bool.or_false, Bool.true_or, Bool.false_or, reduceIte, or_true, true_or, or_false, false_or, and_true, true_and, and_false, false_and, not_true_eq_false, not_false_eq_true, Bool.false_eq_true, eq_self]; done) | (simp [k_find, tr_eq, k_isPhysical, ← sort0, c_2, c_4, c_6, c_16, c_20, c_22]; done)), (by rw [ht]; exact hP9), va_K.moved hW.alike hK, hD9⟩, hS.F ht⟩) hS.2.2 dX2_find_131
              · first | exact absurd c_18 (by decide) | exact absurd (by decide) c_18
            · first | exact absurd c_17 (by decide) | exact absurd (by decide) c_17
          · rw [lg_cmp_eq] at c_16
            refine lv_iconst (v := 1) hx hb dX2_find_56 (by decide) ?_
            refine lv_goto (tgt := 61) hx hb dX2_find_57 (by decide) ?_
            refine lv_istore (lv' := [(6, .int 1), (0, .ref g0), (1, .long ad), (3, .int ac), (4, .int md), (5, .int (nI sn))]) hx hb dX2_find_61 hl (by decide) rfl (fun ls hl => ?_)
            refine lv_iload hx hb dX2_find_63 (lv_at hl 0 rfl) ?_
            refine lv_if_eq (tgt := 82) hx hb dX2_find_65 (by decide) (fun c_24 => ?_) (fun c_24 => ?_)
            · first | exact absurd c_24 (by decide) | exact absurd (by decide) c_24
            · refine lv_lload_n hx hb dX2_find_68 rfl (lv_at hl 2 rfl) ?_
              refine lv_bipush (v := 56) hx hb dX2_find_69 (by decide) ?_
              refine lv_lushr (v := (k_ush ad 56)) hx hb dX2_find_71 rfl ?_
              refine lv_lconst (v := 0) hx hb dX2_find_72 (by decide) ?_
              refine W.lcmp hx hb dX2_find_73 ?_
              refine lv_if_eq (tgt := 82) hx hb dX2_find_74 (by decide) (fun c_25 => ?_) (fun c_25 => ?_)
              · rw [lg_cmp_eq] at c_25
                refine lv_iload hx hb dX2_find_82 (lv_at hl 0 rfl) ?_
                refine lv_if_eq (tgt := 91) hx hb dX2_find_84 (by decide) (fun c_26 => ?_) (fun c_26 => ?_)
                · first | exact absurd c_26 (by decide) | exact absurd (by decide) c_26
                · refine lv_lload_n hx hb dX2_find_87 rfl (lv_at hl 2 rfl) ?_
                  refine lv_goto (tgt := 99) hx hb dX2_find_88 (by decide) ?_
                  refine lv_lstore (lv' := [(7, .long ad), (6, .int 1), (0, .ref g0), (1, .long ad), (3, .int ac), (4, .int md), (5, .int (nI sn))]) hx hb dX2_find_99 hl (by decide) rfl (fun ls hl => ?_)
                  refine lv_lload hx hb dX2_find_101 (lv_at hl 0 rfl) ?_
                  refine lv_lconst (v := 0) hx hb dX2_find_103 (by decide) ?_
                  refine W.lcmp hx hb dX2_find_104 ?_
                  refine lv_if_lt (tgt := 122) hx hb dX2_find_105 (by decide) (fun c_27 => ?_) (fun c_27 => ?_)
                  · rw [lg_cmp_lt] at c_27
                    refine lv_lload hx hb dX2_find_122 (lv_at hl 0 rfl) ?_
                    refine lv_goto (tgt := 131) hx hb dX2_find_124 (by decide) ?_
                    have w9_0 : (k_find w tb su mx cf nu ad ac md (nI sn)).2 = w := (by first | rfl | (simp only [k_find, tr_eq, k_isPhysical, ← sort0, c_2, c_4, c_6, eq_true c_16, eq_true c_25, c_27, b2i, decide_true, decide_false, Bool.not_true, Bool.not_false, Bool.and_true, Bool.and_false, Bool.true_and, Bool.false_and, Bool.or_true, Bool.or_false, Bool.true_or, Bool.false_or, reduceIte, or_true, true_or, or_false, false_or, and_true, true_and, and_false, false_and, not_true_eq_false, not_false_eq_true, Bool.false_eq_true, eq_self]; done) | (simp [k_find, tr_eq, k_isPhysical, ← sort0, c_2, c_4, c_6, eq_true c_16, eq_true c_25, c_27]; done) | (simp only [k_find, tr_eq, k_isPhysical, ← sort0, c_2, c_4, c_6, c_16, c_25, c_27, b2i, decide_true, decide_false, Bool.not_true, Bool.not_false, Bool.and_true, Bool.and_false, Bool.true_and, Bool.false_and, Bool.or_true, Bool.or_false, Bool.true_or, Bool.false_or, reduceIte, or_true, true_or, or_false, false_or, and_true, true_and, and_false, false_and, not_true_eq_false, not_false_eq_true, Bool.false_eq_true, eq_self]; done) | (simp [k_find, tr_eq, k_isPhysical, ← sort0, c_2, c_4, c_6, c_16, c_25, c_27]; done))
                    have hP9 : va_P (dC, dI) vwCl (wMD cL cI g0 gm gc gn 0 (k_find w tb su mx cf nu ad ac md (nI sn)).2 tb su mx cf nu fr tt) H := (by rw [w9_0]; exact hP)
                    have hD9 : va_D A (wMD cL cI g0 gm gc gn 0 (k_find w tb su mx cf nu ad ac md (nI sn)).2 tb su mx cf nu fr tt) := (by rw [w9_0]; exact hD)
                    exact W.lret (v := ad) hx hb hr (fun t ht hW => ⟨⟨ad, (fr, tt), rfl, (by first | rfl | (simp only [k_find, tr_eq, k_isPhysical, ← sort0, c_2, c_4, c_6, eq_true c_16, eq_true c_25, c_27, b2i, decide_true, decide_false, Bool.not_true, Bool.not_false, Bool.and_true, Bool.and_false, Bool.true_and, Bool.false_and, Bool.or_true, Bool.or_false, Bool.true_or, Bool.false_or, reduceIte, or_true, true_or, or_false, false_or, and_true, true_and, and_false, false_and, not_true_eq_false, not_false_eq_true, Bool.false_eq_true, eq_self]; done) | (simp [k_find, tr_eq, k_isPhysical, ← sort0, c_2, c_4, c_6, eq_true c_16, eq_true c_25, c_27]; done) | (simp only [k_find, tr_eq, k_isPhysical, ← sort0, c_2, c_4, c_6, c_16, c_25, c_27, b2i, decide_true, decide_false, Bool.not_true, Bool.not_false, Bool.and_true, Bool.and_false, Bool.true_and, Bool.false_and, Bool.or_true, Bool.or_false, Bool.true_or, Bool.false_or, reduceIte, or_true, true_or, or_false, false_or, and_true, true_and, and_false, false_and, not_true_eq_false, not_false_eq_true, Bool.false_eq_true, eq_self]; done) | (simp [k_find, tr_eq, k_isPhysical, ← sort0, c_2, c_4, c_6, c_16, c_25, c_27]; done)), (by rw [ht]; exact hP9), va_K.moved hW.alike hK, hD9⟩, hS.F ht⟩) hS.2.2 dX2_find_131
                  · rw [lg_cmp_lt] at c_27
                    refine lv_aload_n hx hb dX2_find_108 rfl (lv_at hl 2 rfl) ?_
                    refine lv_lload hx hb dX2_find_109 (lv_at hl 0 rfl) ?_
                    refine lv_iload_n hx hb dX2_find_111 rfl (lv_at hl 4 rfl) ?_
                    refine lv_iload hx hb dX2_find_112 (lv_at hl 5 rfl) ?_
                    refine lv_iload hx hb dX2_find_114 (lv_at hl 6 rfl) ?_
                    have hPc := hP.sub (ws' := (wMD cL cI g0 gm gc gn 0 w tb su mx cf nu fr tt)) [0, 1, 2, 3] rfl
                    have hDc := hD.sub (ws' := (wMD cL cI g0 gm gc gn 0 w tb su mx cf nu fr tt)) [0, 1, 2, 3] (by decide) rfl
                    have hFc := va_free (wc := (wMD cL cI g0 gm gc gn 0 w tb su mx cf nu fr tt)) hD hS hA [0, 1, 2, 3] rfl
                    refine va_calli (va_runV (As := [.long ad, .int ac, .int md, .int (nI sn)]) (rest := []) ⟨hx, hb, hml, hown, hts⟩ (mtX2_isLet l dC dI cL cI g0 gm gc gn 0 w tb su mx cf nu fr tt H.size ad ac md sn (phys_ok c_25) (hS8) (hn) (hc)) (cwV 4 hts (gAll (mc1 (wa 458 (by decide +kernel) rfl) (mc1 (wa 460 (by decide +kernel) rfl) (mc1 (wa 9 (by decide +kernel) rfl) (mc1 (wa 17 (by decide +kernel) rfl) mc0)))) (wa 461 (by decide +kernel) rfl) (by decide +kernel)) rfl rfl rfl (by decide +kernel) ⟨Nat.le_of_ble_eq_true rfl, Nat.le_of_ble_eq_true rfl⟩) (mu_pre (ci := 2) (q0 := 0) hK hPc hDc rfl rfl) rfl rfl hl.1 rfl (lv_room (Nat.le_of_ble_eq_true rfl)) dX2_find_116 ⟨Nat.le_of_ble_eq_true rfl, Nat.le_of_ble_eq_true rfl⟩) hS (fun q _ h => hFc q h) hFc (fun v_28 r_28 t H1 locs ht hvm hpo hB hz1 hk1 hS => ?_)
                    obtain ⟨hP1, hK1, hD1⟩ := hB
                    rw [ht] at hP1
                    obtain ⟨hP, hD⟩ := va_join (wr := []) (w1 := (wMD cL cI g0 gm gc gn 0 w tb su mx cf nu r_28.1 r_28.2)) hP hD [0, 1, 2, 3] [] rfl rfl (by decide) (by decide) hk1 hFc hP1 hD1
                    generalize H1 = H at hP hS ⊢
                    have hP : va_P (dC, dI) vwCl [(g0, .inr (2, [.int 0, .ref gm, .long tb, .int (b2i su), .int (b2i mx), .ref gc, .ref gn, .long r_28.1, .long r_28.2])), (gm, .inl (cL, 8192, .inr (.inl w))), (gc, .inl (cI, 8, .inl cf)), (gn, .inl (cL, 8, .inr (.inl nu)))] H := hP
                    have hD : va_D A [(g0, .inr (2, [.int 0, .ref gm, .long tb, .int (b2i su), .int (b2i mx), .ref gc, .ref gn, .long r_28.1, .long r_28.2])), (gm, .inl (cL, 8192, .inr (.inl w))), (gc, .inl (cI, 8, .inl cf)), (gn, .inl (cL, 8, .inr (.inl nu)))] := hD
                    have ev_28 : v_28 = (b2i (k_let cf nu ad ac md (nI sn))) := hpo
                    subst ev_28
                    refine lv_if_eq (tgt := 127) hx hb dX2_find_119 (by decide) (fun c_29 => ?_) (fun c_29 => ?_)
                    · rw [b2i_z] at c_29
                      refine lv_iload_n hx hb dX2_find_127 rfl (lv_at hl 4 rfl) ?_
                      refine vp_callSl (W.runS (As := [.int ac]) (rest := []) ⟨hx, hb, hml, hown, hts⟩ (mtX2_accessFault l ac) (va_cwS 1 hts (gAll (mc1 (wa 473 (by decide +kernel) rfl) (mc1 (wa 474 (by decide +kernel) rfl) (mc1 (wa 17 (by decide +kernel) rfl) mc0))) (wa 475 (by decide +kernel) rfl) (by decide +kernel)) rfl rfl rfl (by decide +kernel) ⟨Nat.le_of_ble_eq_true rfl, Nat.le_of_ble_eq_true rfl⟩) preEq rfl rfl hl.1 rfl (lv_room (Nat.le_of_ble_eq_true rfl)) dX2_find_128 ⟨Nat.le_of_ble_eq_true rfl, Nat.le_of_ble_eq_true rfl⟩) (fun r_30 er_30 => ?_)
                      have er_30 : r_30 = (k_accessFault ac) := er_30
                      subst er_30
                      have w9_0 : (k_find w tb su mx cf nu ad ac md (nI sn)).2 = w := (by first | rfl | (simp only [k_find, tr_eq, k_isPhysical, ← sort0, c_2, c_4, c_6, eq_true c_16, eq_true c_25, c_27, c_29, b2i, decide_true, decide_false, Bool.not_true, Bool.not_false, Bool.and_true, Bool.and_false, Bool.true_and, Bool.false_and, Bool.or_true, Bool.or_false, Bool.true_or, Bool.false_or, reduceIte, or_true, true_or, or_false, false_or, and_true, true_and, and_false, false_and, not_true_eq_false, not_false_eq_true, Bool.false_eq_true, eq_self]; done) | (simp [k_find, tr_eq, k_isPhysical, ← sort0, c_2, c_4, c_6, eq_true c_16, eq_true c_25, c_27, c_29]; done) | (simp only [k_find, tr_eq, k_isPhysical, ← sort0, c_2, c_4, c_6, c_16, c_25, c_27, c_29, b2i, decide_true, decide_false, Bool.not_true, Bool.not_false, Bool.and_true, Bool.and_false, Bool.true_and, Bool.false_and, Bool.or_true, Bool.or_false, Bool.true_or, Bool.false_or, reduceIte, or_true, true_or, or_false, false_or, and_true, true_and, and_false, false_and, not_true_eq_false, not_false_eq_true, Bool.false_eq_true, eq_self]; done) | (simp [k_find, tr_eq, k_isPhysical, ← sort0, c_2, c_4, c_6, c_16, c_25, c_27, c_29]; done))
                      have hP9 : va_P (dC, dI) vwCl (wMD cL cI g0 gm gc gn 0 (k_find w tb su mx cf nu ad ac md (nI sn)).2 tb su mx cf nu r_28.1 r_28.2) H := (by rw [w9_0]; exact hP)
                      have hD9 : va_D A (wMD cL cI g0 gm gc gn 0 (k_find w tb su mx cf nu ad ac md (nI sn)).2 tb su mx cf nu r_28.1 r_28.2) := (by rw [w9_0]; exact hD)
                      exact W.lret (v := (k_accessFault ac)) hx hb hr (fun t ht hW => ⟨⟨(k_accessFault ac), (r_28.1, r_28.2), rfl, (by first | rfl | (simp only [k_find, tr_eq, k_isPhysical, ← sort0, c_2, c_4, c_6, eq_true c_16, eq_true c_25, c_27, c_29, b2i, decide_true, decide_false, Bool.not_true, Bool.not_false, Bool.and_true, Bool.and_false, Bool.true_and, Bool.false_and, Bool.or_true, Bool.or_false, Bool.true_or, Bool.false_or, reduceIte, or_true, true_or, or_false, false_or, and_true, true_and, and_false, false_and, not_true_eq_false, not_false_eq_true, Bool.false_eq_true, eq_self]; done) | (simp [k_find, tr_eq, k_isPhysical, ← sort0, c_2, c_4, c_6, eq_true c_16, eq_true c_25, c_27, c_29]; done) | (simp only [k_find, tr_eq, k_isPhysical, ← sort0, c_2, c_4, c_6, c_16, c_25, c_27, c_29, b2i, decide_true, decide_false, Bool.not_true, Bool.not_false, Bool.and_true, Bool.and_false, Bool.true_and, Bool.false_and, Bool.or_true, Bool.or_false, Bool.true_or, Bool.false_or, reduceIte, or_true, true_or, or_false, false_or, and_true, true_and, and_false, false_and, not_true_eq_false, not_false_eq_true, Bool.false_eq_true, eq_self]; done) | (simp [k_find, tr_eq, k_isPhysical, ← sort0, c_2, c_4, c_6, c_16, c_25, c_27, c_29]; done)), (by rw [ht]; exact hP9), va_K.moved hW.alike hK, hD9⟩, hS.F ht⟩) hS.2.2 dX2_find_131
                    · rw [b2i_z] at c_29
                      rw [Bool.not_eq_false] at c_29
                      refine lv_lload hx hb dX2_find_122 (lv_at hl 0 rfl) ?_
                      refine lv_goto (tgt := 131) hx hb dX2_find_124 (by decide) ?_
                      have w9_0 : (k_find w tb su mx cf nu ad ac md (nI sn)).2 = w := (by first | rfl | (simp only [k_find, tr_eq, k_isPhysical, ← sort0, c_2, c_4, c_6, eq_true c_16, eq_true c_25, c_27, c_29, b2i, decide_true, decide_false, Bool.not_true, Bool.not_false, Bool.and_true, Bool.and_false, Bool.true_and, Bool.false_and, Bool.or_true, Bool.or_false, Bool.true_or, Bool.false_or, reduceIte, or_true, true_or, or_false, false_or, and_true, true_and, and_false, false_and, not_true_eq_false, not_false_eq_true, Bool.false_eq_true, eq_self]; done) | (simp [k_find, tr_eq, k_isPhysical, ← sort0, c_2, c_4, c_6, eq_true c_16, eq_true c_25, c_27, c_29]; done) | (simp only [k_find, tr_eq, k_isPhysical, ← sort0, c_2, c_4, c_6, c_16, c_25, c_27, c_29, b2i, decide_true, decide_false, Bool.not_true, Bool.not_false, Bool.and_true, Bool.and_false, Bool.true_and, Bool.false_and, Bool.or_true, Bool.or_false, Bool.true_or, Bool.false_or, reduceIte, or_true, true_or, or_false, false_or, and_true, true_and, and_false, false_and, not_true_eq_false, not_false_eq_true, Bool.false_eq_true, eq_self]; done) | (simp [k_find, tr_eq, k_isPhysical, ← sort0, c_2, c_4, c_6, c_16, c_25, c_27, c_29]; done))
                      have hP9 : va_P (dC, dI) vwCl (wMD cL cI g0 gm gc gn 0 (k_find w tb su mx cf nu ad ac md (nI sn)).2 tb su mx cf nu r_28.1 r_28.2) H := (by rw [w9_0]; exact hP)
                      have hD9 : va_D A (wMD cL cI g0 gm gc gn 0 (k_find w tb su mx cf nu ad ac md (nI sn)).2 tb su mx cf nu r_28.1 r_28.2) := (by rw [w9_0]; exact hD)
                      exact W.lret (v := ad) hx hb hr (fun t ht hW => ⟨⟨ad, (r_28.1, r_28.2), rfl, (by first | rfl | (simp only [k_find, tr_eq, k_isPhysical, ← sort0, c_2, c_4, c_6, eq_true c_16, eq_true c_25, c_27, c_29, b2i, decide_true, decide_false, Bool.not_true, Bool.not_false, Bool.and_true, Bool.and_false, Bool.true_and, Bool.false_and, Bool.or_true, Bool.or_false, Bool.true_or, Bool.false_or, reduceIte, or_true, true_or, or_false, false_or, and_true, true_and, and_false, false_and, not_true_eq_false, not_false_eq_true, Bool.false_eq_true, eq_self]; done) | (simp [k_find, tr_eq, k_isPhysical, ← sort0, c_2, c_4, c_6, eq_true c_16, eq_true c_25, c_27, c_29]; done) | (simp only [k_find, tr_eq, k_isPhysical, ← sort0, c_2, c_4, c_6, c_16, c_25, c_27, c_29, b2i, decide_true, decide_false, Bool.not_true, Bool.not_false, Bool.and_true, Bool.and_false, Bool.true_and, Bool.false_and, Bool.or_true, Bool.or_false, Bool.true_or, Bool.false_or, reduceIte, or_true, true_or, or_false, false_or, and_true, true_and, and_false, false_and, not_true_eq_false, not_false_eq_true, Bool.false_eq_true, eq_self]; done) | (simp [k_find, tr_eq, k_isPhysical, ← sort0, c_2, c_4, c_6, c_16, c_25, c_27, c_29]; done)), (by rw [ht]; exact hP9), va_K.moved hW.alike hK, hD9⟩, hS.F ht⟩) hS.2.2 dX2_find_131
              · rw [lg_cmp_eq] at c_25
                refine lv_iload_n hx hb dX2_find_77 rfl (lv_at hl 3 rfl) ?_
                refine vp_callSl (W.runS (As := [.int ac]) (rest := []) ⟨hx, hb, hml, hown, hts⟩ (mtX2_accessFault l ac) (va_cwS 1 hts (gAll (mc1 (wa 473 (by decide +kernel) rfl) (mc1 (wa 474 (by decide +kernel) rfl) (mc1 (wa 17 (by decide +kernel) rfl) mc0))) (wa 475 (by decide +kernel) rfl) (by decide +kernel)) rfl rfl rfl (by decide +kernel) ⟨Nat.le_of_ble_eq_true rfl, Nat.le_of_ble_eq_true rfl⟩) preEq rfl rfl hl.1 rfl (lv_room (Nat.le_of_ble_eq_true rfl)) dX2_find_78 ⟨Nat.le_of_ble_eq_true rfl, Nat.le_of_ble_eq_true rfl⟩) (fun r_31 er_31 => ?_)
                have er_31 : r_31 = (k_accessFault ac) := er_31
                subst er_31
                have w9_0 : (k_find w tb su mx cf nu ad ac md (nI sn)).2 = w := (by first | rfl | (simp only [k_find, tr_eq, k_isPhysical, ← sort0, c_2, c_4, c_6, eq_true c_16, c_25, b2i, decide_true, decide_false, Bool.not_true, Bool.not_false, Bool.and_true, Bool.and_false, Bool.true_and, Bool.false_and, Bool.or_true, Bool.or_false, Bool.true_or, Bool.false_or, reduceIte, or_true, true_or, or_false, false_or, and_true, true_and, and_false, false_and, not_true_eq_false, not_false_eq_true, Bool.false_eq_true, eq_self]; done) | (simp [k_find, tr_eq, k_isPhysical, ← sort0, c_2, c_4, c_6, eq_true c_16, c_25]; done) | (simp only [k_find, tr_eq, k_isPhysical, ← sort0, c_2, c_4, c_6, c_16, c_25, b2i, decide_true, decide_false, Bool.not_true, Bool.not_false, Bool.and_true, Bool.and_false, Bool.true_and, Bool.false_and, Bool.or_true, Bool.or_false, Bool.true_or, Bool.false_or, reduceIte, or_true, true_or, or_false, false_or, and_true, true_and, and_false, false_and, not_true_eq_false, not_false_eq_true, Bool.false_eq_true, eq_self]; done) | (simp [k_find, tr_eq, k_isPhysical, ← sort0, c_2, c_4, c_6, c_16, c_25]; done))
                have hP9 : va_P (dC, dI) vwCl (wMD cL cI g0 gm gc gn 0 (k_find w tb su mx cf nu ad ac md (nI sn)).2 tb su mx cf nu fr tt) H := (by rw [w9_0]; exact hP)
                have hD9 : va_D A (wMD cL cI g0 gm gc gn 0 (k_find w tb su mx cf nu ad ac md (nI sn)).2 tb su mx cf nu fr tt) := (by rw [w9_0]; exact hD)
                exact W.lret (v := (k_accessFault ac)) hx hb hr (fun t ht hW => ⟨⟨(k_accessFault ac), (fr, tt), rfl, (by first | rfl | (simp only [k_find, tr_eq, k_isPhysical, ← sort0, c_2, c_4, c_6, eq_true c_16, c_25, b2i, decide_true, decide_false, Bool.not_true, Bool.not_false, Bool.and_true, Bool.and_false, Bool.true_and, Bool.false_and, Bool.or_true, Bool.or_false, Bool.true_or, Bool.false_or, reduceIte, or_true, true_or, or_false, false_or, and_true, true_and, and_false, false_and, not_true_eq_false, not_false_eq_true, Bool.false_eq_true, eq_self]; done) | (simp [k_find, tr_eq, k_isPhysical, ← sort0, c_2, c_4, c_6, eq_true c_16, c_25]; done) | (simp only [k_find, tr_eq, k_isPhysical, ← sort0, c_2, c_4, c_6, c_16, c_25, b2i, decide_true, decide_false, Bool.not_true, Bool.not_false, Bool.and_true, Bool.and_false, Bool.true_and, Bool.false_and, Bool.or_true, Bool.or_false, Bool.true_or, Bool.false_or, reduceIte, or_true, true_or, or_false, false_or, and_true, true_and, and_false, false_and, not_true_eq_false, not_false_eq_true, Bool.false_eq_true, eq_self]; done) | (simp [k_find, tr_eq, k_isPhysical, ← sort0, c_2, c_4, c_6, c_16, c_25]; done)), (by rw [ht]; exact hP9), va_K.moved hW.alike hK, hD9⟩, hS.F ht⟩) hS.2.2 dX2_find_81
      · first | exact absurd c_5 (by decide) | exact absurd (by decide) c_5
set_option maxHeartbeats 4000000 in
set_option maxRecDepth 100000 in
theorem mtX2_find_no (l : Launch) (dC : Nat → ClassId) (dI : Nat → Nat → Nat) (cL : ClassId) (cI : ClassId) (g0 : Nat) (gm : Nat) (gc : Nat) (gn : Nat) (cd : Int32) (w : Nat → Int64) (tb : Int64) (su : Bool) (mx : Bool) (cf : Nat → Int32) (nu : Nat → Int64) (fr : Int64) (tt : Int64) (hz : Nat) (ad : Int64) (ac : Int32) (md : Int32) (sz : Int32) (h1 : ¬ (m_isAccess ac md sz = true ∧ m_isWithin ad sz = true)) : Met l yX2_find wsX2_find ({ frames := 5, cells := 0, slots := 0, locals := 142 }) (va_Pc [.ref g0, .long ad, .int ac, .int md, .int sz] (fun U => U.heap.size = hz ∧ va_P (dC, dI) vwCl (wMD cL cI g0 gm gc gn cd w tb su mx cf nu fr tt) U.heap ∧ va_K (dC, dI) vwCl [(cL, .long), (cI, .int)] U ∧ va_D (fun _ => True) (wMD cL cI g0 gm gc gn cd w tb su mx cf nu fr tt))) (va_Ql (fun r (_ : Unit) => r = 0) (fun _ t => va_P (dC, dI) vwCl (wMD cL cI g0 gm gc gn 1 w tb su mx cf nu fr tt) t.heap ∧ va_K (dC, dI) vwCl [(cL, .long), (cI, .int)] t ∧ va_D (va_A (wMD cL cI g0 gm gc gn cd w tb su mx cf nu fr tt) hz) (wMD cL cI g0 gm gc gn 1 w tb su mx cf nu fr tt)) (va_A (wMD cL cI g0 gm gc gn cd w tb su mx cf nu fr tt) hz)) 0 0 (va_A (wMD cL cI g0 gm gc gn cd w tb su mx cf nu fr tt) hz) := by
  refine Met.ofW (cc := cX2_find) (maxL := 9) (ret := (some .long)) (by decide) rfl ?_
  intro p e s m args below meth c s₁ B hml hv
  obtain ⟨rfl, hsz, hP, hK, hD0⟩ := hv
  have hx := B.exec
  have hb := B.bytes
  have hr := B.returns
  have hts := atoms_spec (ws := wsX2_find) B.pre
  have hown : s.vm.findClass RX2 = some m.cls := findClass_of_methodNamed B.named
  have hlocks := B.notSynchronized
  subst hsz
  have hD := hD0.self (sz := s.heap.size)
  generalize hAe : va_A (wMD cL cI g0 gm gc gn cd w tb su mx cf nu fr tt) s.heap.size = A at hD ⊢
  have hA : ∀ q : Nat, s.heap.size ≤ q → A q := fun q h => by rw [← hAe]; exact Or.inr h
  have hS : va_S A s.heap s.heap [] := va_S.rf
  have hP : va_P (dC, dI) vwCl [(g0, .inr (2, [.int cd, .ref gm, .long tb, .int (b2i su), .int (b2i mx), .ref gc, .ref gn, .long fr, .long tt])), (gm, .inl (cL, 8192, .inr (.inl w))), (gc, .inl (cI, 8, .inl cf)), (gn, .inl (cL, 8, .inr (.inl nu)))] s.heap := hP
  have hD : va_D A [(g0, .inr (2, [.int cd, .ref gm, .long tb, .int (b2i su), .int (b2i mx), .ref gc, .ref gn, .long fr, .long tt])), (gm, .inl (cL, 8192, .inr (.inl w))), (gc, .inl (cI, 8, .inl cf)), (gn, .inl (cL, 8, .inr (.inl nu)))] := hD
  have hl := lv_entry ([.ref g0, .long ad, .int ac, .int md, .int sz]) (n := 9) (Nat.le_of_ble_eq_true rfl)
  rw [lg_entry_eq]
  generalize (lg_sl ([.ref g0, .long ad, .int ac, .int md, .int sz]) ++ List.replicate (9 - (lg_sl ([.ref g0, .long ad, .int ac, .int md, .int sz])).length) Slot.unset).toArray = ls at hl ⊢
  have hl : lv_has ls 9 [(0, .ref g0), (1, .long ad), (3, .int ac), (4, .int md), (5, .int sz)] := hl
  refine lv_aload_n hx hb dX2_find_0 rfl (lv_at hl 0 rfl) ?_
  refine lv_iload_n hx hb dX2_find_1 rfl (lv_at hl 2 rfl) ?_
  refine lv_iload hx hb dX2_find_2 (lv_at hl 3 rfl) ?_
  refine lv_iload hx hb dX2_find_4 (lv_at hl 4 rfl) ?_
  refine vp_callSi (W.runS (As := [.int ac, .int md, .int sz]) (rest := [.ref g0]) ⟨hx, hb, hml, hown, hts⟩ (mtX2_isAccess l ac md sz) (va_cwS 3 hts (gAll (mc1 (wa 450 (by decide +kernel) rfl) (mc1 (wa 451 (by decide +kernel) rfl) (mc1 (wa 17 (by decide +kernel) rfl) mc0))) (wa 452 (by decide +kernel) rfl) (by decide +kernel)) rfl rfl rfl (by decide +kernel) ⟨Nat.le_of_ble_eq_true rfl, Nat.le_of_ble_eq_true rfl⟩) preEq rfl rfl hl.1 rfl (lv_room (Nat.le_of_ble_eq_true rfl)) dX2_find_6 ⟨Nat.le_of_ble_eq_true rfl, Nat.le_of_ble_eq_true rfl⟩) (fun r_1 er_1 => ?_)
  have er_1 : r_1 = (b2i (m_isAccess ac md sz)) := er_1
  subst er_1
  refine lv_if_eq (tgt := 25) hx hb dX2_find_9 (by decide) (fun c_2 => ?_) (fun c_2 => ?_)
  · rw [b2i_z] at c_2
    refine lv_iconst (v := 1) hx hb dX2_find_25 (by decide) ?_
    refine va_put (D := (dC, dI)) (ci := 2) (v := .int 1) (ty := .int) (C := RX2) (T := TX2) (N := 9) hx hb hts iwX2 tyX2 tyX2_ok nmX2 hown hK hP hD hS 0 rfl rfl 0 (by decide) (hts (.fieldLink RX2 20 RX2 "code" "I") (wa 355 (by decide +kernel) rfl)) (fun _ h9 => h9) rfl (by decide +kernel) rfl rfl (Nat.le_of_ble_eq_true rfl) dX2_find_26 (fun H locs hP hD hS => ?_)
    have hP : va_P (dC, dI) vwCl [(g0, .inr (2, [.int 1, .ref gm, .long tb, .int (b2i su), .int (b2i mx), .ref gc, .ref gn, .long fr, .long tt])), (gm, .inl (cL, 8192, .inr (.inl w))), (gc, .inl (cI, 8, .inl cf)), (gn, .inl (cL, 8, .inr (.inl nu)))] H := hP
    have hD : va_D A [(g0, .inr (2, [.int 1, .ref gm, .long tb, .int (b2i su), .int (b2i mx), .ref gc, .ref gn, .long fr, .long tt])), (gm, .inl (cL, 8192, .inr (.inl w))), (gc, .inl (cI, 8, .inl cf)), (gn, .inl (cL, 8, .inr (.inl nu)))] := hD
    refine lv_aload_n hx hb dX2_find_29 rfl (lv_at hl 0 rfl) ?_
    refine va_get (D := (dC, dI)) (ci := 2) (v := .int 1) (C := RX2) (T := TX2) (N := 9) hx hb hts iwX2 hown hK hP 0 rfl rfl 0 (by decide) (hts (.fieldLink RX2 20 RX2 "code" "I") (wa 355 (by decide +kernel) rfl)) (fun _ h9 => h9) rfl dX2_find_30 ?_
    refine lv_if_le (tgt := 38) hx hb dX2_find_33 (by decide) (fun c_3 => ?_) (fun c_3 => ?_)
    · first | exact absurd c_3 (by decide) | exact absurd (by decide) c_3
    · refine lv_lconst (v := 0) hx hb dX2_find_36 (by decide) ?_
      have hP9 : va_P (dC, dI) vwCl (wMD cL cI g0 gm gc gn 1 w tb su mx cf nu fr tt) H := hP
      have hD9 : va_D A (wMD cL cI g0 gm gc gn 1 w tb su mx cf nu fr tt) := hD
      exact W.lret (v := 0) hx hb hr (fun t ht hW => ⟨⟨0, (), rfl, (by first | rfl | (simp only [c_2, b2i, decide_true, decide_false, Bool.not_true, Bool.not_false, Bool.and_true, Bool.and_false, Bool.true_and, Bool.false_and, Bool.or_true, Bool.or_false, Bool.true_or, Bool.false_or, reduceIte, or_true, true_or, or_false, false_or, and_true, true_and, and_false, false_and, not_true_eq_false, not_false_eq_true, Bool.false_eq_true, eq_self]; done) | (simp [c_2]; done)), (by rw [ht]; exact hP9), va_K.moved hW.alike hK, hD9⟩, hS.F ht⟩) hS.2.2 dX2_find_37
  · rw [b2i_z] at c_2
    rw [Bool.not_eq_false] at c_2
    refine lv_lload_n hx hb dX2_find_12 rfl (lv_at hl 1 rfl) ?_
    refine lv_iload hx hb dX2_find_13 (lv_at hl 4 rfl) ?_
    refine vp_callSi (W.runS (As := [.long ad, .int sz]) (rest := [.ref g0]) ⟨hx, hb, hml, hown, hts⟩ (mtX2_isWithin l ad sz) (va_cwS 2 hts (gAll (mc1 (wa 453 (by decide +kernel) rfl) (mc1 (wa 454 (by decide +kernel) rfl) (mc1 (wa 17 (by decide +kernel) rfl) mc0))) (wa 455 (by decide +kernel) rfl) (by decide +kernel)) rfl rfl rfl (by decide +kernel) ⟨Nat.le_of_ble_eq_true rfl, Nat.le_of_ble_eq_true rfl⟩) preEq rfl rfl hl.1 rfl (lv_room (Nat.le_of_ble_eq_true rfl)) dX2_find_15 ⟨Nat.le_of_ble_eq_true rfl, Nat.le_of_ble_eq_true rfl⟩) (fun r_4 er_4 => ?_)
    have er_4 : r_4 = (b2i (m_isWithin ad sz)) := er_4
    subst er_4
    refine lv_if_eq (tgt := 25) hx hb dX2_find_18 (by decide) (fun c_5 => ?_) (fun c_5 => ?_)
    · rw [b2i_z] at c_5
      refine lv_iconst (v := 1) hx hb dX2_find_25 (by decide) ?_
      refine va_put (D := (dC, dI)) (ci := 2) (v := .int 1) (ty := .int) (C := RX2) (T := TX2) (N := 9) hx hb hts iwX2 tyX2 tyX2_ok nmX2 hown hK hP hD hS 0 rfl rfl 0 (by decide) (hts (.fieldLink RX2 20 RX2 "code" "I") (wa 355 (by decide +kernel) rfl)) (fun _ h9 => h9) rfl (by decide +kernel) rfl rfl (Nat.le_of_ble_eq_true rfl) dX2_find_26 (fun H locs hP hD hS => ?_)
      have hP : va_P (dC, dI) vwCl [(g0, .inr (2, [.int 1, .ref gm, .long tb, .int (b2i su), .int (b2i mx), .ref gc, .ref gn, .long fr, .long tt])), (gm, .inl (cL, 8192, .inr (.inl w))), (gc, .inl (cI, 8, .inl cf)), (gn, .inl (cL, 8, .inr (.inl nu)))] H := hP
      have hD : va_D A [(g0, .inr (2, [.int 1, .ref gm, .long tb, .int (b2i su), .int (b2i mx), .ref gc, .ref gn, .long fr, .long tt])), (gm, .inl (cL, 8192, .inr (.inl w))), (gc, .inl (cI, 8, .inl cf)), (gn, .inl (cL, 8, .inr (.inl nu)))] := hD
      refine lv_aload_n hx hb dX2_find_29 rfl (lv_at hl 0 rfl) ?_
      refine va_get (D := (dC, dI)) (ci := 2) (v := .int 1) (C := RX2) (T := TX2) (N := 9) hx hb hts iwX2 hown hK hP 0 rfl rfl 0 (by decide) (hts (.fieldLink RX2 20 RX2 "code" "I") (wa 355 (by decide +kernel) rfl)) (fun _ h9 => h9) rfl dX2_find_30 ?_
      refine lv_if_le (tgt := 38) hx hb dX2_find_33 (by decide) (fun c_6 => ?_) (fun c_6 => ?_)
      · first | exact absurd c_6 (by decide) | exact absurd (by decide) c_6
      · refine lv_lconst (v := 0) hx hb dX2_find_36 (by decide) ?_
        have hP9 : va_P (dC, dI) vwCl (wMD cL cI g0 gm gc gn 1 w tb su mx cf nu fr tt) H := hP
        have hD9 : va_D A (wMD cL cI g0 gm gc gn 1 w tb su mx cf nu fr tt) := hD
        exact W.lret (v := 0) hx hb hr (fun t ht hW => ⟨⟨0, (), rfl, (by first | rfl | (simp only [c_2, c_5, b2i, decide_true, decide_false, Bool.not_true, Bool.not_false, Bool.and_true, Bool.and_false, Bool.true_and, Bool.false_and, Bool.or_true, Bool.or_false, Bool.true_or, Bool.false_or, reduceIte, or_true, true_or, or_false, false_or, and_true, true_and, and_false, false_and, not_true_eq_false, not_false_eq_true, Bool.false_eq_true, eq_self]; done) | (simp [c_2, c_5]; done)), (by rw [ht]; exact hP9), va_K.moved hW.alike hK, hD9⟩, hS.F ht⟩) hS.2.2 dX2_find_37
    · rw [b2i_z] at c_5
      rw [Bool.not_eq_false] at c_5
      exact absurd ⟨c_2, c_5⟩ h1
