set_option maxHeartbeats 4000000 in
set_option maxRecDepth 100000 in
theorem mtX2_cover (l : Launch) (dC : Nat → ClassId) (dI : Nat → Nat → Nat) (cL : ClassId) (cI : ClassId) (g0 : Nat) (gm : Nat) (gc : Nat) (gn : Nat) (cd : Int32) (w : Nat → Int64) (tb : Int64) (su : Bool) (mx : Bool) (cf : Nat → Int32) (nu : Nat → Int64) (fr : Int64) (tt : Int64) (hz : Nat) (i : Nat) (hi : i < 8) (hn : okN nu) : Met l yX2_cover wsX2_cover ({ frames := 1, cells := 0, slots := 0, locals := 21 }) (va_Pc [.ref g0, .int (nI i)] (fun U => U.heap.size = hz ∧ va_P (dC, dI) vwCl (wMD cL cI g0 gm gc gn cd w tb su mx cf nu fr tt) U.heap ∧ va_K (dC, dI) vwCl [(cL, .long), (cI, .int)] U ∧ va_D (fun _ => True) (wMD cL cI g0 gm gc gn cd w tb su mx cf nu fr tt))) (va_Qv (fun _ : Unit => True) (fun _ t => va_P (dC, dI) vwCl (wMD cL cI g0 gm gc gn cd w tb su mx cf nu (k_startOf (cf i) (nu i) (m_bef nu i)) (k_endOf (cf i) (nu i))) t.heap ∧ va_K (dC, dI) vwCl [(cL, .long), (cI, .int)] t ∧ va_D (va_A (wMD cL cI g0 gm gc gn cd w tb su mx cf nu fr tt) hz) (wMD cL cI g0 gm gc gn cd w tb su mx cf nu (k_startOf (cf i) (nu i) (m_bef nu i)) (k_endOf (cf i) (nu i)))) (va_A (wMD cL cI g0 gm gc gn cd w tb su mx cf nu fr tt) hz)) 0 0 (va_A (wMD cL cI g0 gm gc gn cd w tb su mx cf nu fr tt) hz) := by
  refine Met.ofW (cc := cX2_cover) (maxL := 9) (ret := none) (by decide) rfl ?_
  intro p e s m args below meth c s₁ B hml hv
  obtain ⟨rfl, hsz, hP, hK, hD0⟩ := hv
  have hx := B.exec
  have hb := B.bytes
  have hr := B.returns
  have hts := atoms_spec (ws := wsX2_cover) B.pre
  have hown : s.vm.findClass RX2 = some m.cls := findClass_of_methodNamed B.named
  have hlocks := B.notSynchronized
  subst hsz
  have hD := hD0.self (sz := s.heap.size)
  generalize hAe : va_A (wMD cL cI g0 gm gc gn cd w tb su mx cf nu fr tt) s.heap.size = A at hD ⊢
  have hA : ∀ q : Nat, s.heap.size ≤ q → A q := fun q h => by rw [← hAe]; exact Or.inr h
  have hS : va_S A s.heap s.heap [] := va_S.rf
  have hP : va_P (dC, dI) vwCl [(g0, .inr (2, [.int cd, .ref gm, .long tb, .int (b2i su), .int (b2i mx), .ref gc, .ref gn, .long fr, .long tt])), (gm, .inl (cL, 8192, .inr (.inl w))), (gc, .inl (cI, 8, .inl cf)), (gn, .inl (cL, 8, .inr (.inl nu)))] s.heap := hP
  have hD : va_D A [(g0, .inr (2, [.int cd, .ref gm, .long tb, .int (b2i su), .int (b2i mx), .ref gc, .ref gn, .long fr, .long tt])), (gm, .inl (cL, 8192, .inr (.inl w))), (gc, .inl (cI, 8, .inl cf)), (gn, .inl (cL, 8, .inr (.inl nu)))] := hD
  obtain ⟨n0, hn0, en⟩ := hn i hi
  have hl := lv_entry ([.ref g0, .int (nI i)]) (n := 9) (Nat.le_of_ble_eq_true rfl)
  rw [lg_entry_eq]
  generalize (lg_sl ([.ref g0, .int (nI i)]) ++ List.replicate (9 - (lg_sl ([.ref g0, .int (nI i)])).length) Slot.unset).toArray = ls at hl ⊢
  have hl : lv_has ls 9 [(0, .ref g0), (1, .int (nI i))] := hl
  refine lv_aload_n hx hb dX2_cover_0 rfl (lv_at hl 0 rfl) ?_
  refine lv_iload_n hx hb dX2_cover_1 rfl (lv_at hl 1 rfl) ?_
  refine vp_callSi (W.runV (As := [.int (nI i)]) (rest := []) ⟨hx, hb, hml, hown, hts⟩ (mtX2_kind l dC dI cL cI g0 gm gc gn cd w tb su mx cf nu fr tt i (hi)) (cwV 1 hts (gAll (mc1 (wa 441 (by decide +kernel) rfl) (mc1 (wa 443 (by decide +kernel) rfl) (mc1 (wa 8 (by decide +kernel) rfl) (mc1 (wa 17 (by decide +kernel) rfl) mc0)))) (wa 444 (by decide +kernel) rfl) (by decide +kernel)) rfl rfl rfl (by decide +kernel) ⟨Nat.le_of_ble_eq_true rfl, Nat.le_of_ble_eq_true rfl⟩) (rd_pre (ci := 2) (q0 := 0) hK hP rfl rfl) rfl rfl hl.1 rfl (lv_room (Nat.le_of_ble_eq_true rfl)) dX2_cover_2 ⟨Nat.le_of_ble_eq_true rfl, Nat.le_of_ble_eq_true rfl⟩) (fun r_1 er_1 => ?_)
  have er_1 : r_1 = (k_kindOf (cf i)) := er_1
  subst er_1
  refine lv_istore_n (lv' := [(2, .int (k_kindOf (cf i))), (0, .ref g0), (1, .int (nI i))]) hx hb dX2_cover_5 rfl hl (by decide) rfl (fun ls hl => ?_)
  refine lv_aload_n hx hb dX2_cover_6 rfl (lv_at hl 1 rfl) ?_
  refine lv_lconst (v := 0) hx hb dX2_cover_7 (by decide) ?_
  refine va_put (D := (dC, dI)) (ci := 2) (v := .long 0) (ty := .long) (C := RX2) (T := TX2) (N := 9) hx hb hts iwX2 tyX2 tyX2_ok nmX2 hown hK hP hD hS 0 rfl rfl 7 (by decide) (hts (.fieldLink RX2 67 RX2 "from" "J") (wa 362 (by decide +kernel) rfl)) (fun _ h9 => h9) rfl (by decide +kernel) rfl rfl (Nat.le_of_ble_eq_true rfl) dX2_cover_8 (fun H locs hP hD hS => ?_)
  have hP : va_P (dC, dI) vwCl [(g0, .inr (2, [.int cd, .ref gm, .long tb, .int (b2i su), .int (b2i mx), .ref gc, .ref gn, .long 0, .long tt])), (gm, .inl (cL, 8192, .inr (.inl w))), (gc, .inl (cI, 8, .inl cf)), (gn, .inl (cL, 8, .inr (.inl nu)))] H := hP
  have hD : va_D A [(g0, .inr (2, [.int cd, .ref gm, .long tb, .int (b2i su), .int (b2i mx), .ref gc, .ref gn, .long 0, .long tt])), (gm, .inl (cL, 8192, .inr (.inl w))), (gc, .inl (cI, 8, .inl cf)), (gn, .inl (cL, 8, .inr (.inl nu)))] := hD
  refine lv_aload_n hx hb dX2_cover_11 rfl (lv_at hl 1 rfl) ?_
  refine lv_lconst (v := 0) hx hb dX2_cover_12 (by decide) ?_
  refine va_put (D := (dC, dI)) (ci := 2) (v := .long 0) (ty := .long) (C := RX2) (T := TX2) (N := 9) hx hb hts iwX2 tyX2 tyX2_ok nmX2 hown hK hP hD hS 0 rfl rfl 8 (by decide) (hts (.fieldLink RX2 70 RX2 "to" "J") (wa 363 (by decide +kernel) rfl)) (fun _ h9 => h9) rfl (by decide +kernel) rfl rfl (Nat.le_of_ble_eq_true rfl) dX2_cover_13 (fun H locs hP hD hS => ?_)
  have hP : va_P (dC, dI) vwCl [(g0, .inr (2, [.int cd, .ref gm, .long tb, .int (b2i su), .int (b2i mx), .ref gc, .ref gn, .long 0, .long 0])), (gm, .inl (cL, 8192, .inr (.inl w))), (gc, .inl (cI, 8, .inl cf)), (gn, .inl (cL, 8, .inr (.inl nu)))] H := hP
  have hD : va_D A [(g0, .inr (2, [.int cd, .ref gm, .long tb, .int (b2i su), .int (b2i mx), .ref gc, .ref gn, .long 0, .long 0])), (gm, .inl (cL, 8192, .inr (.inl w))), (gc, .inl (cI, 8, .inl cf)), (gn, .inl (cL, 8, .inr (.inl nu)))] := hD
  refine lv_iload_n hx hb dX2_cover_16 rfl (lv_at hl 0 rfl) ?_
  refine lv_iconst (v := 1) hx hb dX2_cover_17 (by decide) ?_
  refine lv_icmp_ne (tgt := 62) hx hb dX2_cover_18 (by decide) (fun c_2 => ?_) (fun c_2 => ?_)
  · refine lv_iload_n hx hb dX2_cover_62 rfl (lv_at hl 0 rfl) ?_
    refine lv_iconst (v := 1) hx hb dX2_cover_63 (by decide) ?_
    refine lv_icmp_le (tgt := 154) hx hb dX2_cover_64 (by decide) (fun c_3 => ?_) (fun c_3 => ?_)
    · have hk0 : (k_kindOf (cf i)) = 0 := kind0 c_2 c_3
      have w9_0 : (k_startOf (cf i) (nu i) (m_bef nu i)) = 0 := (by first | rfl | (simp only [k_startOf, k_endOf, c_2, c_3, hk0, b2i, decide_true, decide_false, Bool.not_true, Bool.not_false, Bool.and_true, Bool.and_false, Bool.true_and, Bool.false_and, Bool.or_true, Bool.or_false, Bool.true_or, Bool.false_or, reduceIte, or_true, true_or, or_false, false_or, and_true, true_and, and_false, false_and, not_true_eq_false, not_false_eq_true, Bool.false_eq_true, eq_self]; done) | (simp [k_startOf, k_endOf, c_2, c_3, hk0]; done))
      have w9_1 : (k_endOf (cf i) (nu i)) = 0 := (by first | rfl | (simp only [k_startOf, k_endOf, c_2, c_3, hk0, b2i, decide_true, decide_false, Bool.not_true, Bool.not_false, Bool.and_true, Bool.and_false, Bool.true_and, Bool.false_and, Bool.or_true, Bool.or_false, Bool.true_or, Bool.false_or, reduceIte, or_true, true_or, or_false, false_or, and_true, true_and, and_false, false_and, not_true_eq_false, not_false_eq_true, Bool.false_eq_true, eq_self]; done) | (simp [k_startOf, k_endOf, c_2, c_3, hk0]; done))
      have hP9 : va_P (dC, dI) vwCl (wMD cL cI g0 gm gc gn cd w tb su mx cf nu (k_startOf (cf i) (nu i) (m_bef nu i)) (k_endOf (cf i) (nu i))) H := (by rw [w9_0, w9_1]; exact hP)
      have hD9 : va_D A (wMD cL cI g0 gm gc gn cd w tb su mx cf nu (k_startOf (cf i) (nu i) (m_bef nu i)) (k_endOf (cf i) (nu i))) := (by rw [w9_0, w9_1]; exact hD)
      exact W.vret hx hb hr (fun t ht hW => ⟨⟨(), rfl, trivial, (by rw [ht]; exact hP9), va_K.moved hW.alike hK, hD9⟩, hS.F ht⟩) hS.2.2 dX2_cover_154
    · refine lv_ldc2 (v := 4) hx hb hown (hts (.constantLong RX2 73 4) (wa 466 (by decide +kernel) rfl)) dX2_cover_67 ?_
      refine lv_lstore_n (lv' := [(3, .long 4), (2, .int (k_kindOf (cf i))), (0, .ref g0), (1, .int (nI i))]) hx hb dX2_cover_70 rfl hl (by decide) rfl (fun ls hl => ?_)
      refine lv_aload_n hx hb dX2_cover_71 rfl (lv_at hl 2 rfl) ?_
      refine va_get (D := (dC, dI)) (ci := 2) (v := .ref gn) (C := RX2) (T := TX2) (N := 9) hx hb hts iwX2 hown hK hP 0 rfl rfl 6 (by decide) (hts (.fieldLink RX2 17 RX2 "numbers" "[J") (wa 361 (by decide +kernel) rfl)) (fun _ h9 => h9) rfl dX2_cover_72 ?_
      refine lv_iload_n hx hb dX2_cover_75 rfl (lv_at hl 3 rfl) ?_
      refine va_lald hx hb hK hP 3 0 rfl rfl (vp_in_nI hi (by omega)) dX2_cover_76 ?_
      rw [nI_clamp (show i < 2 ^ 31 by omega)]
      refine lv_lstore (lv' := [(5, .long (nu i)), (3, .long 4), (2, .int (k_kindOf (cf i))), (0, .ref g0), (1, .int (nI i))]) hx hb dX2_cover_77 hl (by decide) rfl (fun ls hl => ?_)
      refine lv_iload_n hx hb dX2_cover_79 rfl (lv_at hl 2 rfl) ?_
      refine lv_iconst (v := 3) hx hb dX2_cover_80 (by decide) ?_
      refine lv_icmp_ne (tgt := 134) hx hb dX2_cover_81 (by decide) (fun c_4 => ?_) (fun c_4 => ?_)
      · have hk2 : (k_kindOf (cf i)) = 2 := kind2 c_3 c_4
        refine lv_aload_n hx hb dX2_cover_134 rfl (lv_at hl 3 rfl) ?_
        refine lv_ldc2 (v := 4) hx hb hown (hts (.constantLong RX2 73 4) (wa 466 (by decide +kernel) rfl)) dX2_cover_135 ?_
        refine lv_lload hx hb dX2_cover_138 (lv_at hl 0 rfl) ?_
        refine lv_lmul hx hb dX2_cover_140 ?_
        refine va_put (D := (dC, dI)) (ci := 2) (v := .long (4 * (nu i))) (ty := .long) (C := RX2) (T := TX2) (N := 9) hx hb hts iwX2 tyX2 tyX2_ok nmX2 hown hK hP hD hS 0 rfl rfl 7 (by decide) (hts (.fieldLink RX2 67 RX2 "from" "J") (wa 362 (by decide +kernel) rfl)) (fun _ h9 => h9) rfl (by decide +kernel) rfl rfl (Nat.le_of_ble_eq_true rfl) dX2_cover_141 (fun H locs hP hD hS => ?_)
        have hP : va_P (dC, dI) vwCl [(g0, .inr (2, [.int cd, .ref gm, .long tb, .int (b2i su), .int (b2i mx), .ref gc, .ref gn, .long (4 * (nu i)), .long 0])), (gm, .inl (cL, 8192, .inr (.inl w))), (gc, .inl (cI, 8, .inl cf)), (gn, .inl (cL, 8, .inr (.inl nu)))] H := hP
        have hD : va_D A [(g0, .inr (2, [.int cd, .ref gm, .long tb, .int (b2i su), .int (b2i mx), .ref gc, .ref gn, .long (4 * (nu i)), .long 0])), (gm, .inl (cL, 8192, .inr (.inl w))), (gc, .inl (cI, 8, .inl cf)), (gn, .inl (cL, 8, .inr (.inl nu)))] := hD
        refine lv_aload_n hx hb dX2_cover_144 rfl (lv_at hl 3 rfl) ?_
        refine lv_aload_n hx hb dX2_cover_145 rfl (lv_at hl 3 rfl) ?_
        refine va_get (D := (dC, dI)) (ci := 2) (v := .long (4 * (nu i))) (C := RX2) (T := TX2) (N := 9) hx hb hts iwX2 hown hK hP 0 rfl rfl 7 (by decide) (hts (.fieldLink RX2 67 RX2 "from" "J") (wa 362 (by decide +kernel) rfl)) (fun _ h9 => h9) rfl dX2_cover_146 ?_
        refine lv_lload_n hx hb dX2_cover_149 rfl (lv_at hl 1 rfl) ?_
        refine lv_ladd hx hb dX2_cover_150 ?_
        refine va_put (D := (dC, dI)) (ci := 2) (v := .long ((4 * (nu i)) + 4)) (ty := .long) (C := RX2) (T := TX2) (N := 9) hx hb hts iwX2 tyX2 tyX2_ok nmX2 hown hK hP hD hS 0 rfl rfl 8 (by decide) (hts (.fieldLink RX2 70 RX2 "to" "J") (wa 363 (by decide +kernel) rfl)) (fun _ h9 => h9) rfl (by decide +kernel) rfl rfl (Nat.le_of_ble_eq_true rfl) dX2_cover_151 (fun H locs hP hD hS => ?_)
        have hP : va_P (dC, dI) vwCl [(g0, .inr (2, [.int cd, .ref gm, .long tb, .int (b2i su), .int (b2i mx), .ref gc, .ref gn, .long (4 * (nu i)), .long ((4 * (nu i)) + 4)])), (gm, .inl (cL, 8192, .inr (.inl w))), (gc, .inl (cI, 8, .inl cf)), (gn, .inl (cL, 8, .inr (.inl nu)))] H := hP
        have hD : va_D A [(g0, .inr (2, [.int cd, .ref gm, .long tb, .int (b2i su), .int (b2i mx), .ref gc, .ref gn, .long (4 * (nu i)), .long ((4 * (nu i)) + 4)])), (gm, .inl (cL, 8192, .inr (.inl w))), (gc, .inl (cI, 8, .inl cf)), (gn, .inl (cL, 8, .inr (.inl nu)))] := hD
        have w9_0 : (k_startOf (cf i) (nu i) (m_bef nu i)) = (4 * (nu i)) := (by first | rfl | (simp only [k_startOf, k_endOf, c_2, c_3, c_4, hk2, four1, b2i, decide_true, decide_false, Bool.not_true, Bool.not_false, Bool.and_true, Bool.and_false, Bool.true_and, Bool.false_and, Bool.or_true, Bool.or_false, Bool.true_or, Bool.false_or, reduceIte, or_true, true_or, or_false, false_or, and_true, true_and, and_false, false_and, not_true_eq_false, not_false_eq_true, Bool.false_eq_true, eq_self]; done) | (simp [k_startOf, k_endOf, c_2, c_3, c_4, hk2, four1]; done))
        have w9_1 : (k_endOf (cf i) (nu i)) = ((4 * (nu i)) + 4) := (by first | rfl | (simp only [k_startOf, k_endOf, c_2, c_3, c_4, hk2, four1, b2i, decide_true, decide_false, Bool.not_true, Bool.not_false, Bool.and_true, Bool.and_false, Bool.true_and, Bool.false_and, Bool.or_true, Bool.or_false, Bool.true_or, Bool.false_or, reduceIte, or_true, true_or, or_false, false_or, and_true, true_and, and_false, false_and, not_true_eq_false, not_false_eq_true, Bool.false_eq_true, eq_self]; done) | (simp [k_startOf, k_endOf, c_2, c_3, c_4, hk2, four1]; done))
        have hP9 : va_P (dC, dI) vwCl (wMD cL cI g0 gm gc gn cd w tb su mx cf nu (k_startOf (cf i) (nu i) (m_bef nu i)) (k_endOf (cf i) (nu i))) H := (by rw [w9_0, w9_1]; exact hP)
        have hD9 : va_D A (wMD cL cI g0 gm gc gn cd w tb su mx cf nu (k_startOf (cf i) (nu i) (m_bef nu i)) (k_endOf (cf i) (nu i))) := (by rw [w9_0, w9_1]; exact hD)
        exact W.vret hx hb hr (fun t ht hW => ⟨⟨(), rfl, trivial, (by rw [ht]; exact hP9), va_K.moved hW.alike hK, hD9⟩, hS.F ht⟩) hS.2.2 dX2_cover_154
      · refine lv_lconst (v := 1) hx hb dX2_cover_84 (by decide) ?_
        refine lv_lstore (lv' := [(7, .long 1), (5, .long (nu i)), (3, .long 4), (2, .int (k_kindOf (cf i))), (0, .ref g0), (1, .int (nI i))]) hx hb dX2_cover_85 hl (by decide) rfl (fun ls hl => ?_)
        refine lv_ldc2 (v := 8) hx hb hown (hts (.constantLong RX2 28 8) (wa 396 (by decide +kernel) rfl)) dX2_cover_87 ?_
        refine lv_lstore_n (lv' := [(3, .long 8), (7, .long 1), (5, .long (nu i)), (2, .int (k_kindOf (cf i))), (0, .ref g0), (1, .int (nI i))]) hx hb dX2_cover_90 rfl hl (by decide) rfl (fun ls hl => ?_)
        have inner : ∀ (f j x y : Nat) (ls : Array Slot), 55 ≤ j + f → j ≤ 54 → x + 2 ^ j = n0 + 1 → x = 2 ^ j * y → lv_has ls 9 [(0, .ref g0), (3, .long (lN (8 * 2 ^ j))), (5, .long (lN x)), (7, .long (lN (2 ^ j)))] → W p l e (headSpec wsX2_cover ({ frames := 1, cells := 0, slots := 0, locals := 21 })).room s m (([.ref g0, .int (nI i)] : List Value).toArray) below meth c H locs 0 0 (MQ below (va_Qv (fun _ : Unit => True) (fun _ t => va_P (dC, dI) vwCl (wMD cL cI g0 gm gc gn cd w tb su mx cf nu (k_startOf (cf i) (nu i) (m_bef nu i)) (k_endOf (cf i) (nu i))) t.heap ∧ va_K (dC, dI) vwCl [(cL, .long), (cI, .int)] t ∧ va_D A (wMD cL cI g0 gm gc gn cd w tb su mx cf nu (k_startOf (cf i) (nu i) (m_bef nu i)) (k_endOf (cf i) (nu i)))) A) (([.ref g0, .int (nI i)] : List Value).toArray) s 0 0 A) (F0 m 91 ls []) := by
          intro f
          induction f with
          | zero =>
            intro j x y ls h1 h2
            exact absurd h1 (by omega)
          | succ f ihf =>
            intro j x y ls hj1 hj2 hx1 hx2 hl
            refine lv_lload hx hb dX2_cover_91 (lv_at hl 3 rfl) ?_
            refine lv_ldc2 (v := 18014398509481984) hx hb hown (hts (.constantLong RX2 75 18014398509481984) (wa 467 (by decide +kernel) rfl)) dX2_cover_93 ?_
            refine W.lcmp hx hb dX2_cover_96 ?_
            refine lv_if_ge (tgt := 134) hx hb dX2_cover_97 (by decide) (fun c_5 => ?_) (fun c_5 => ?_)
            · rw [lg_cmp_ge] at c_5
              obtain ⟨hfr, htt⟩ := ones_big (b := m_bef nu i) c_4 en hn0 hx1 hx2 hj2 c_5
              refine lv_aload_n hx hb dX2_cover_134 rfl (lv_at hl 0 rfl) ?_
              refine lv_ldc2 (v := 4) hx hb hown (hts (.constantLong RX2 73 4) (wa 466 (by decide +kernel) rfl)) dX2_cover_135 ?_
              refine lv_lload hx hb dX2_cover_138 (lv_at hl 2 rfl) ?_
              refine lv_lmul hx hb dX2_cover_140 ?_
              refine va_put (D := (dC, dI)) (ci := 2) (v := .long (4 * (lN x))) (ty := .long) (C := RX2) (T := TX2) (N := 9) hx hb hts iwX2 tyX2 tyX2_ok nmX2 hown hK hP hD hS 0 rfl rfl 7 (by decide) (hts (.fieldLink RX2 67 RX2 "from" "J") (wa 362 (by decide +kernel) rfl)) (fun _ h9 => h9) rfl (by decide +kernel) rfl rfl (Nat.le_of_ble_eq_true rfl) dX2_cover_141 (fun H locs hP hD hS => ?_)
              have hP : va_P (dC, dI) vwCl [(g0, .inr (2, [.int cd, .ref gm, .long tb, .int (b2i su), .int (b2i mx), .ref gc, .ref gn, .long (4 * (lN x)), .long 0])), (gm, .inl (cL, 8192, .inr (.inl w))), (gc, .inl (cI, 8, .inl cf)), (gn, .inl (cL, 8, .inr (.inl nu)))] H := hP
              have hD : va_D A [(g0, .inr (2, [.int cd, .ref gm, .long tb, .int (b2i su), .int (b2i mx), .ref gc, .ref gn, .long (4 * (lN x)), .long 0])), (gm, .inl (cL, 8192, .inr (.inl w))), (gc, .inl (cI, 8, .inl cf)), (gn, .inl (cL, 8, .inr (.inl nu)))] := hD
              refine lv_aload_n hx hb dX2_cover_144 rfl (lv_at hl 0 rfl) ?_
              refine lv_aload_n hx hb dX2_cover_145 rfl (lv_at hl 0 rfl) ?_
              refine va_get (D := (dC, dI)) (ci := 2) (v := .long (4 * (lN x))) (C := RX2) (T := TX2) (N := 9) hx hb hts iwX2 hown hK hP 0 rfl rfl 7 (by decide) (hts (.fieldLink RX2 67 RX2 "from" "J") (wa 362 (by decide +kernel) rfl)) (fun _ h9 => h9) rfl dX2_cover_146 ?_
              refine lv_lload_n hx hb dX2_cover_149 rfl (lv_at hl 1 rfl) ?_
              refine lv_ladd hx hb dX2_cover_150 ?_
              refine va_put (D := (dC, dI)) (ci := 2) (v := .long ((4 * (lN x)) + (lN (8 * 2 ^ j)))) (ty := .long) (C := RX2) (T := TX2) (N := 9) hx hb hts iwX2 tyX2 tyX2_ok nmX2 hown hK hP hD hS 0 rfl rfl 8 (by decide) (hts (.fieldLink RX2 70 RX2 "to" "J") (wa 363 (by decide +kernel) rfl)) (fun _ h9 => h9) rfl (by decide +kernel) rfl rfl (Nat.le_of_ble_eq_true rfl) dX2_cover_151 (fun H locs hP hD hS => ?_)
              have hP : va_P (dC, dI) vwCl [(g0, .inr (2, [.int cd, .ref gm, .long tb, .int (b2i su), .int (b2i mx), .ref gc, .ref gn, .long (4 * (lN x)), .long ((4 * (lN x)) + (lN (8 * 2 ^ j)))])), (gm, .inl (cL, 8192, .inr (.inl w))), (gc, .inl (cI, 8, .inl cf)), (gn, .inl (cL, 8, .inr (.inl nu)))] H := hP
              have hD : va_D A [(g0, .inr (2, [.int cd, .ref gm, .long tb, .int (b2i su), .int (b2i mx), .ref gc, .ref gn, .long (4 * (lN x)), .long ((4 * (lN x)) + (lN (8 * 2 ^ j)))])), (gm, .inl (cL, 8192, .inr (.inl w))), (gc, .inl (cI, 8, .inl cf)), (gn, .inl (cL, 8, .inr (.inl nu)))] := hD
              have w9_0 : (k_startOf (cf i) (nu i) (m_bef nu i)) = (4 * (lN x)) := hfr
              have w9_1 : (k_endOf (cf i) (nu i)) = ((4 * (lN x)) + (lN (8 * 2 ^ j))) := htt
              have hP9 : va_P (dC, dI) vwCl (wMD cL cI g0 gm gc gn cd w tb su mx cf nu (k_startOf (cf i) (nu i) (m_bef nu i)) (k_endOf (cf i) (nu i))) H := (by rw [w9_0, w9_1]; exact hP)
              have hD9 : va_D A (wMD cL cI g0 gm gc gn cd w tb su mx cf nu (k_startOf (cf i) (nu i) (m_bef nu i)) (k_endOf (cf i) (nu i))) := (by rw [w9_0, w9_1]; exact hD)
              exact W.vret hx hb hr (fun t ht hW => ⟨⟨(), rfl, trivial, (by rw [ht]; exact hP9), va_K.moved hW.alike hK, hD9⟩, hS.F ht⟩) hS.2.2 dX2_cover_154
            · rw [lg_cmp_ge] at c_5
              refine lv_lload hx hb dX2_cover_100 (lv_at hl 2 rfl) ?_
              refine lv_lload hx hb dX2_cover_102 (lv_at hl 3 rfl) ?_
              refine lv_land hx hb dX2_cover_104 ?_
              refine lv_lconst (v := 0) hx hb dX2_cover_105 (by decide) ?_
              refine W.lcmp hx hb dX2_cover_106 ?_
              refine lv_if_eq (tgt := 134) hx hb dX2_cover_107 (by decide) (fun c_6 => ?_) (fun c_6 => ?_)
              · rw [lg_cmp_eq] at c_6
                obtain ⟨hfr, htt⟩ := ones_odd (b := m_bef nu i) c_4 en hn0 hx1 hx2 hj2 c_6
                refine lv_aload_n hx hb dX2_cover_134 rfl (lv_at hl 0 rfl) ?_
                refine lv_ldc2 (v := 4) hx hb hown (hts (.constantLong RX2 73 4) (wa 466 (by decide +kernel) rfl)) dX2_cover_135 ?_
                refine lv_lload hx hb dX2_cover_138 (lv_at hl 2 rfl) ?_
                refine lv_lmul hx hb dX2_cover_140 ?_
                refine va_put (D := (dC, dI)) (ci := 2) (v := .long (4 * (lN x))) (ty := .long) (C := RX2) (T := TX2) (N := 9) hx hb hts iwX2 tyX2 tyX2_ok nmX2 hown hK hP hD hS 0 rfl rfl 7 (by decide) (hts (.fieldLink RX2 67 RX2 "from" "J") (wa 362 (by decide +kernel) rfl)) (fun _ h9 => h9) rfl (by decide +kernel) rfl rfl (Nat.le_of_ble_eq_true rfl) dX2_cover_141 (fun H locs hP hD hS => ?_)
                have hP : va_P (dC, dI) vwCl [(g0, .inr (2, [.int cd, .ref gm, .long tb, .int (b2i su), .int (b2i mx), .ref gc, .ref gn, .long (4 * (lN x)), .long 0])), (gm, .inl (cL, 8192, .inr (.inl w))), (gc, .inl (cI, 8, .inl cf)), (gn, .inl (cL, 8, .inr (.inl nu)))] H := hP
                have hD : va_D A [(g0, .inr (2, [.int cd, .ref gm, .long tb, .int (b2i su), .int (b2i mx), .ref gc, .ref gn, .long (4 * (lN x)), .long 0])), (gm, .inl (cL, 8192, .inr (.inl w))), (gc, .inl (cI, 8, .inl cf)), (gn, .inl (cL, 8, .inr (.inl nu)))] := hD
                refine lv_aload_n hx hb dX2_cover_144 rfl (lv_at hl 0 rfl) ?_
                refine lv_aload_n hx hb dX2_cover_145 rfl (lv_at hl 0 rfl) ?_
                refine va_get (D := (dC, dI)) (ci := 2) (v := .long (4 * (lN x))) (C := RX2) (T := TX2) (N := 9) hx hb hts iwX2 hown hK hP 0 rfl rfl 7 (by decide) (hts (.fieldLink RX2 67 RX2 "from" "J") (wa 362 (by decide +kernel) rfl)) (fun _ h9 => h9) rfl dX2_cover_146 ?_
                refine lv_lload_n hx hb dX2_cover_149 rfl (lv_at hl 1 rfl) ?_
                refine lv_ladd hx hb dX2_cover_150 ?_
                refine va_put (D := (dC, dI)) (ci := 2) (v := .long ((4 * (lN x)) + (lN (8 * 2 ^ j)))) (ty := .long) (C := RX2) (T := TX2) (N := 9) hx hb hts iwX2 tyX2 tyX2_ok nmX2 hown hK hP hD hS 0 rfl rfl 8 (by decide) (hts (.fieldLink RX2 70 RX2 "to" "J") (wa 363 (by decide +kernel) rfl)) (fun _ h9 => h9) rfl (by decide +kernel) rfl rfl (Nat.le_of_ble_eq_true rfl) dX2_cover_151 (fun H locs hP hD hS => ?_)
                have hP : va_P (dC, dI) vwCl [(g0, .inr (2, [.int cd, .ref gm, .long tb, .int (b2i su), .int (b2i mx), .ref gc, .ref gn, .long (4 * (lN x)), .long ((4 * (lN x)) + (lN (8 * 2 ^ j)))])), (gm, .inl (cL, 8192, .inr (.inl w))), (gc, .inl (cI, 8, .inl cf)), (gn, .inl (cL, 8, .inr (.inl nu)))] H := hP
                have hD : va_D A [(g0, .inr (2, [.int cd, .ref gm, .long tb, .int (b2i su), .int (b2i mx), .ref gc, .ref gn, .long (4 * (lN x)), .long ((4 * (lN x)) + (lN (8 * 2 ^ j)))])), (gm, .inl (cL, 8192, .inr (.inl w))), (gc, .inl (cI, 8, .inl cf)), (gn, .inl (cL, 8, .inr (.inl nu)))] := hD
                have w9_0 : (k_startOf (cf i) (nu i) (m_bef nu i)) = (4 * (lN x)) := hfr
                have w9_1 : (k_endOf (cf i) (nu i)) = ((4 * (lN x)) + (lN (8 * 2 ^ j))) := htt
                have hP9 : va_P (dC, dI) vwCl (wMD cL cI g0 gm gc gn cd w tb su mx cf nu (k_startOf (cf i) (nu i) (m_bef nu i)) (k_endOf (cf i) (nu i))) H := (by rw [w9_0, w9_1]; exact hP)
                have hD9 : va_D A (wMD cL cI g0 gm gc gn cd w tb su mx cf nu (k_startOf (cf i) (nu i) (m_bef nu i)) (k_endOf (cf i) (nu i))) := (by rw [w9_0, w9_1]; exact hD)
                exact W.vret hx hb hr (fun t ht hW => ⟨⟨(), rfl, trivial, (by rw [ht]; exact hP9), va_K.moved hW.alike hK, hD9⟩, hS.F ht⟩) hS.2.2 dX2_cover_154
              · rw [lg_cmp_eq] at c_6
                have hc2 := c_6
                have hj54 : j < 54 := pow54 hj2 c_5
                refine lv_lload hx hb dX2_cover_110 (lv_at hl 2 rfl) ?_
                refine lv_lload hx hb dX2_cover_112 (lv_at hl 3 rfl) ?_
                refine lv_lsub hx hb dX2_cover_114 ?_
                refine lv_lstore (lv' := [(5, .long ((lN x) - (lN (2 ^ j)))), (0, .ref g0), (3, .long (lN (8 * 2 ^ j))), (7, .long (lN (2 ^ j)))]) hx hb dX2_cover_115 hl (by decide) rfl (fun ls hl => ?_)
                refine lv_ldc2 (v := 2) hx hb hown (hts (.constantLong RX2 77 2) (wa 468 (by decide +kernel) rfl)) dX2_cover_117 ?_
                refine lv_lload hx hb dX2_cover_120 (lv_at hl 3 rfl) ?_
                refine lv_lmul hx hb dX2_cover_122 ?_
                refine lv_lstore (lv' := [(7, .long (2 * (lN (2 ^ j)))), (5, .long ((lN x) - (lN (2 ^ j)))), (0, .ref g0), (3, .long (lN (8 * 2 ^ j)))]) hx hb dX2_cover_123 hl (by decide) rfl (fun ls hl => ?_)
                refine lv_ldc2 (v := 2) hx hb hown (hts (.constantLong RX2 77 2) (wa 468 (by decide +kernel) rfl)) dX2_cover_125 ?_
                refine lv_lload_n hx hb dX2_cover_128 rfl (lv_at hl 3 rfl) ?_
                refine lv_lmul hx hb dX2_cover_129 ?_
                refine lv_lstore_n (lv' := [(3, .long (2 * (lN (8 * 2 ^ j)))), (7, .long (2 * (lN (2 ^ j)))), (5, .long ((lN x) - (lN (2 ^ j)))), (0, .ref g0)]) hx hb dX2_cover_130 rfl hl (by decide) rfl (fun ls hl => ?_)
                refine lv_goto (tgt := 91) hx hb dX2_cover_131 (by decide) ?_
                obtain ⟨z, hz0, hz1, hz2⟩ := ones_next hx2 hc2 hj2 hx1 hn0
                exact ihf (j + 1) (x - 2 ^ j) z ls (by omega) (by omega) (by omega) hz2 (by have h9 := hl; rw [hz0, two_lN, two_lN8] at h9; exact lv_sub h9 [3, 0, 2, 1] rfl)
        rw [en] at hl
        exact inner 55 0 n0 n0 ls (by omega) (by omega) (by omega) (by omega) (lv_sub hl [4, 0, 2, 1] rfl)
  · refine lv_aload_n hx hb dX2_cover_21 rfl (lv_at hl 1 rfl) ?_
    refine lv_iload_n hx hb dX2_cover_22 rfl (lv_at hl 2 rfl) ?_
    refine lv_if_ne (tgt := 30) hx hb dX2_cover_23 (by decide) (fun c_7 => ?_) (fun c_7 => ?_)
    · have hi0 : ¬ i = 0 := fun h => c_7 (by rw [h]; rfl)
      have hb0 : m_bef nu i = nu (i - 1) := if_neg hi0
      refine lv_ldc2 (v := 4) hx hb hown (hts (.constantLong RX2 73 4) (wa 466 (by decide +kernel) rfl)) dX2_cover_30 ?_
      refine lv_aload_n hx hb dX2_cover_33 rfl (lv_at hl 1 rfl) ?_
      refine va_get (D := (dC, dI)) (ci := 2) (v := .ref gn) (C := RX2) (T := TX2) (N := 9) hx hb hts iwX2 hown hK hP 0 rfl rfl 6 (by decide) (hts (.fieldLink RX2 17 RX2 "numbers" "[J") (wa 361 (by decide +kernel) rfl)) (fun _ h9 => h9) rfl dX2_cover_34 ?_
      refine lv_iload_n hx hb dX2_cover_37 rfl (lv_at hl 2 rfl) ?_
      refine lv_iconst (v := 1) hx hb dX2_cover_38 (by decide) ?_
      refine lv_isub hx hb dX2_cover_39 ?_
      rw [show nI i - 1 = nI (i - 1) from pk_sub (a := i) (b := 1) (by omega)]
      refine va_lald hx hb hK hP 3 0 rfl rfl (vp_in_nI (show i - 1 < 8 by omega) (by omega)) dX2_cover_40 ?_
      rw [nI_clamp (show i - 1 < 2 ^ 31 by omega)]
      refine lv_lmul hx hb dX2_cover_41 ?_
      refine va_put (D := (dC, dI)) (ci := 2) (v := .long (4 * (nu (i - 1)))) (ty := .long) (C := RX2) (T := TX2) (N := 9) hx hb hts iwX2 tyX2 tyX2_ok nmX2 hown hK hP hD hS 0 rfl rfl 7 (by decide) (hts (.fieldLink RX2 67 RX2 "from" "J") (wa 362 (by decide +kernel) rfl)) (fun _ h9 => h9) rfl (by decide +kernel) rfl rfl (Nat.le_of_ble_eq_true rfl) dX2_cover_42 (fun H locs hP hD hS => ?_)
      have hP : va_P (dC, dI) vwCl [(g0, .inr (2, [.int cd, .ref gm, .long tb, .int (b2i su), .int (b2i mx), .ref gc, .ref gn, .long (4 * (nu (i - 1))), .long 0])), (gm, .inl (cL, 8192, .inr (.inl w))), (gc, .inl (cI, 8, .inl cf)), (gn, .inl (cL, 8, .inr (.inl nu)))] H := hP
      have hD : va_D A [(g0, .inr (2, [.int cd, .ref gm, .long tb, .int (b2i su), .int (b2i mx), .ref gc, .ref gn, .long (4 * (nu (i - 1))), .long 0])), (gm, .inl (cL, 8192, .inr (.inl w))), (gc, .inl (cI, 8, .inl cf)), (gn, .inl (cL, 8, .inr (.inl nu)))] := hD
      refine lv_aload_n hx hb dX2_cover_45 rfl (lv_at hl 1 rfl) ?_
      refine lv_ldc2 (v := 4) hx hb hown (hts (.constantLong RX2 73 4) (wa 466 (by decide +kernel) rfl)) dX2_cover_46 ?_
      refine lv_aload_n hx hb dX2_cover_49 rfl (lv_at hl 1 rfl) ?_
      refine va_get (D := (dC, dI)) (ci := 2) (v := .ref gn) (C := RX2) (T := TX2) (N := 9) hx hb hts iwX2 hown hK hP 0 rfl rfl 6 (by decide) (hts (.fieldLink RX2 17 RX2 "numbers" "[J") (wa 361 (by decide +kernel) rfl)) (fun _ h9 => h9) rfl dX2_cover_50 ?_
      refine lv_iload_n hx hb dX2_cover_53 rfl (lv_at hl 2 rfl) ?_
      refine va_lald hx hb hK hP 3 0 rfl rfl (vp_in_nI hi (by omega)) dX2_cover_54 ?_
      rw [nI_clamp (show i < 2 ^ 31 by omega)]
      refine lv_lmul hx hb dX2_cover_55 ?_
      refine va_put (D := (dC, dI)) (ci := 2) (v := .long (4 * (nu i))) (ty := .long) (C := RX2) (T := TX2) (N := 9) hx hb hts iwX2 tyX2 tyX2_ok nmX2 hown hK hP hD hS 0 rfl rfl 8 (by decide) (hts (.fieldLink RX2 70 RX2 "to" "J") (wa 363 (by decide +kernel) rfl)) (fun _ h9 => h9) rfl (by decide +kernel) rfl rfl (Nat.le_of_ble_eq_true rfl) dX2_cover_56 (fun H locs hP hD hS => ?_)
      have hP : va_P (dC, dI) vwCl [(g0, .inr (2, [.int cd, .ref gm, .long tb, .int (b2i su), .int (b2i mx), .ref gc, .ref gn, .long (4 * (nu (i - 1))), .long (4 * (nu i))])), (gm, .inl (cL, 8192, .inr (.inl w))), (gc, .inl (cI, 8, .inl cf)), (gn, .inl (cL, 8, .inr (.inl nu)))] H := hP
      have hD : va_D A [(g0, .inr (2, [.int cd, .ref gm, .long tb, .int (b2i su), .int (b2i mx), .ref gc, .ref gn, .long (4 * (nu (i - 1))), .long (4 * (nu i))])), (gm, .inl (cL, 8192, .inr (.inl w))), (gc, .inl (cI, 8, .inl cf)), (gn, .inl (cL, 8, .inr (.inl nu)))] := hD
      refine lv_goto (tgt := 154) hx hb dX2_cover_59 (by decide) ?_
      have w9_0 : (k_startOf (cf i) (nu i) (m_bef nu i)) = (4 * (nu (i - 1))) := (by first | rfl | (simp only [k_startOf, k_endOf, eq_true c_2, c_7, hb0, b2i, decide_true, decide_false, Bool.not_true, Bool.not_false, Bool.and_true, Bool.and_false, Bool.true_and, Bool.false_and, Bool.or_true, Bool.or_false, Bool.true_or, Bool.false_or, reduceIte, or_true, true_or, or_false, false_or, and_true, true_and, and_false, false_and, not_true_eq_false, not_false_eq_true, Bool.false_eq_true, eq_self]; done) | (simp [k_startOf, k_endOf, eq_true c_2, c_7, hb0]; done) | (simp only [k_startOf, k_endOf, c_2, c_7, hb0, b2i, decide_true, decide_false, Bool.not_true, Bool.not_false, Bool.and_true, Bool.and_false, Bool.true_and, Bool.false_and, Bool.or_true, Bool.or_false, Bool.true_or, Bool.false_or, reduceIte, or_true, true_or, or_false, false_or, and_true, true_and, and_false, false_and, not_true_eq_false, not_false_eq_true, Bool.false_eq_true, eq_self]; done) | (simp [k_startOf, k_endOf, c_2, c_7, hb0]; done))
      have w9_1 : (k_endOf (cf i) (nu i)) = (4 * (nu i)) := (by first | rfl | (simp only [k_startOf, k_endOf, eq_true c_2, c_7, hb0, b2i, decide_true, decide_false, Bool.not_true, Bool.not_false, Bool.and_true, Bool.and_false, Bool.true_and, Bool.false_and, Bool.or_true, Bool.or_false, Bool.true_or, Bool.false_or, reduceIte, or_true, true_or, or_false, false_or, and_true, true_and, and_false, false_and, not_true_eq_false, not_false_eq_true, Bool.false_eq_true, eq_self]; done) | (simp [k_startOf, k_endOf, eq_true c_2, c_7, hb0]; done) | (simp only [k_startOf, k_endOf, c_2, c_7, hb0, b2i, decide_true, decide_false, Bool.not_true, Bool.not_false, Bool.and_true, Bool.and_false, Bool.true_and, Bool.false_and, Bool.or_true, Bool.or_false, Bool.true_or, Bool.false_or, reduceIte, or_true, true_or, or_false, false_or, and_true, true_and, and_false, false_and, not_true_eq_false, not_false_eq_true, Bool.false_eq_true, eq_self]; done) | (simp [k_startOf, k_endOf, c_2, c_7, hb0]; done))
      have hP9 : va_P (dC, dI) vwCl (wMD cL cI g0 gm gc gn cd w tb su mx cf nu (k_startOf (cf i) (nu i) (m_bef nu i)) (k_endOf (cf i) (nu i))) H := (by rw [w9_0, w9_1]; exact hP)
      have hD9 : va_D A (wMD cL cI g0 gm gc gn cd w tb su mx cf nu (k_startOf (cf i) (nu i) (m_bef nu i)) (k_endOf (cf i) (nu i))) := (by rw [w9_0, w9_1]; exact hD)
      exact W.vret hx hb hr (fun t ht hW => ⟨⟨(), rfl, trivial, (by rw [ht]; exact hP9), va_K.moved hW.alike hK, hD9⟩, hS.F ht⟩) hS.2.2 dX2_cover_154
    · have hb0 : m_bef nu i = 0 := if_pos (i0_of hi c_7)
      refine lv_lconst (v := 0) hx hb dX2_cover_26 (by decide) ?_
      refine lv_goto (tgt := 42) hx hb dX2_cover_27 (by decide) ?_
      refine va_put (D := (dC, dI)) (ci := 2) (v := .long 0) (ty := .long) (C := RX2) (T := TX2) (N := 9) hx hb hts iwX2 tyX2 tyX2_ok nmX2 hown hK hP hD hS 0 rfl rfl 7 (by decide) (hts (.fieldLink RX2 67 RX2 "from" "J") (wa 362 (by decide +kernel) rfl)) (fun _ h9 => h9) rfl (by decide +kernel) rfl rfl (Nat.le_of_ble_eq_true rfl) dX2_cover_42 (fun H locs hP hD hS => ?_)
      have hP : va_P (dC, dI) vwCl [(g0, .inr (2, [.int cd, .ref gm, .long tb, .int (b2i su), .int (b2i mx), .ref gc, .ref gn, .long 0, .long 0])), (gm, .inl (cL, 8192, .inr (.inl w))), (gc, .inl (cI, 8, .inl cf)), (gn, .inl (cL, 8, .inr (.inl nu)))] H := hP
      have hD : va_D A [(g0, .inr (2, [.int cd, .ref gm, .long tb, .int (b2i su), .int (b2i mx), .ref gc, .ref gn, .long 0, .long 0])), (gm, .inl (cL, 8192, .inr (.inl w))), (gc, .inl (cI, 8, .inl cf)), (gn, .inl (cL, 8, .inr (.inl nu)))] := hD
      refine lv_aload_n hx hb dX2_cover_45 rfl (lv_at hl 1 rfl) ?_
      refine lv_ldc2 (v := 4) hx hb hown (hts (.constantLong RX2 73 4) (wa 466 (by decide +kernel) rfl)) dX2_cover_46 ?_
      refine lv_aload_n hx hb dX2_cover_49 rfl (lv_at hl 1 rfl) ?_
      refine va_get (D := (dC, dI)) (ci := 2) (v := .ref gn) (C := RX2) (T := TX2) (N := 9) hx hb hts iwX2 hown hK hP 0 rfl rfl 6 (by decide) (hts (.fieldLink RX2 17 RX2 "numbers" "[J") (wa 361 (by decide +kernel) rfl)) (fun _ h9 => h9) rfl dX2_cover_50 ?_
      refine lv_iload_n hx hb dX2_cover_53 rfl (lv_at hl 2 rfl) ?_
      refine va_lald hx hb hK hP 3 0 rfl rfl (vp_in_nI hi (by omega)) dX2_cover_54 ?_
      rw [nI_clamp (show i < 2 ^ 31 by omega)]
      refine lv_lmul hx hb dX2_cover_55 ?_
      refine va_put (D := (dC, dI)) (ci := 2) (v := .long (4 * (nu i))) (ty := .long) (C := RX2) (T := TX2) (N := 9) hx hb hts iwX2 tyX2 tyX2_ok nmX2 hown hK hP hD hS 0 rfl rfl 8 (by decide) (hts (.fieldLink RX2 70 RX2 "to" "J") (wa 363 (by decide +kernel) rfl)) (fun _ h9 => h9) rfl (by decide +kernel) rfl rfl (Nat.le_of_ble_eq_true rfl) dX2_cover_56 (fun H locs hP hD hS => ?_)
      have hP : va_P (dC, dI) vwCl [(g0, .inr (2, [.int cd, .ref gm, .long tb, .int (b2i su), .int (b2i mx), .ref gc, .ref gn, .long 0, .long (4 * (nu i))])), (gm, .inl (cL, 8192, .inr (.inl w))), (gc, .inl (cI, 8, .inl cf)), (gn, .inl (cL, 8, .inr (.inl nu)))] H := hP
      have hD : va_D A [(g0, .inr (2, [.int cd, .ref gm, .long tb, .int (b2i su), .int (b2i mx), .ref gc, .ref gn, .long 0, .long (4 * (nu i))])), (gm, .inl (cL, 8192, .inr (.inl w))), (gc, .inl (cI, 8, .inl cf)), (gn, .inl (cL, 8, .inr (.inl nu)))] := hD
      refine lv_goto (tgt := 154) hx hb dX2_cover_59 (by decide) ?_
      have w9_0 : (k_startOf (cf i) (nu i) (m_bef nu i)) = 0 := (by first | rfl | (simp only [k_startOf, k_endOf, eq_true c_2, eq_true c_7, hb0, b2i, decide_true, decide_false, Bool.not_true, Bool.not_false, Bool.and_true, Bool.and_false, Bool.true_and, Bool.false_and, Bool.or_true, Bool.or_false, Bool.true_or, Bool.false_or, reduceIte, or_true, true_or, or_false, false_or, and_true, true_and, and_false, false_and, not_true_eq_false, not_false_eq_true, Bool.false_eq_true, eq_self]; done) | (simp [k_startOf, k_endOf, eq_true c_2, eq_true c_7, hb0]; done) | (simp only [k_startOf, k_endOf, c_2, c_7, hb0, b2i, decide_true, decide_false, Bool.not_true, Bool.not_false, Bool.and_true, Bool.and_false, Bool.true_and, Bool.false_and, Bool.or_true, Bool.or_false, Bool.true_or, Bool.false_or, reduceIte, or_true, true_or, or_false, false_or, and_true, true_and, and_false, false_and, not_true_eq_false, not_false_eq_true, Bool.false_eq_true, eq_self]; done) | (simp [k_startOf, k_endOf, c_2, c_7, hb0]; done))
      have w9_1 : (k_endOf (cf i) (nu i)) = (4 * (nu i)) := (by first | rfl | (simp only [k_startOf, k_endOf, eq_true c_2, eq_true c_7, hb0, b2i, decide_true, decide_false, Bool.not_true, Bool.not_false, Bool.and_true, Bool.and_false, Bool.true_and, Bool.false_and, Bool.or_true, Bool.or_false, Bool.true_or, Bool.false_or, reduceIte, or_true, true_or, or_false, false_or, and_true, true_and, and_false, false_and, not_true_eq_false, not_false_eq_true, Bool.false_eq_true, eq_self]; done) | (simp [k_startOf, k_endOf, eq_true c_2, eq_true c_7, hb0]; done) | (simp only [k_startOf, k_endOf, c_2, c_7, hb0, b2i, decide_true, decide_false, Bool.not_true, Bool.not_false, Bool.and_true, Bool.and_false, Bool.true_and, Bool.false_and, Bool.or_true, Bool.or_false, Bool.true_or, Bool.false_or, reduceIte, or_true, true_or, or_false, false_or, and_true, true_and, and_false, false_and, not_true_eq_false, not_false_eq_true, Bool.false_eq_true, eq_self]; done) | (simp [k_startOf, k_endOf, c_2, c_7, hb0]; done))
      have hP9 : va_P (dC, dI) vwCl (wMD cL cI g0 gm gc gn cd w tb su mx cf nu (k_startOf (cf i) (nu i) (m_bef nu i)) (k_endOf (cf i) (nu i))) H := (by rw [w9_0, w9_1]; exact hP)
      have hD9 : va_D A (wMD cL cI g0 gm gc gn cd w tb su mx cf nu (k_startOf (cf i) (nu i) (m_bef nu i)) (k_endOf (cf i) (nu i))) := (by rw [w9_0, w9_1]; exact hD)
      exact W.vret hx hb hr (fun t ht hW => ⟨⟨(), rfl, trivial, (by rw [ht]; exact hP9), va_K.moved hW.alike hK, hD9⟩, hS.F ht⟩) hS.2.2 dX2_cover_154
