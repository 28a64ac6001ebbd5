set_option maxHeartbeats 4000000 in
set_option maxRecDepth 100000 in
theorem mtX0_takeConfigs (l : Launch) (dC : Nat → ClassId) (dI : Nat → Nat → Nat) (cL : ClassId) (cI : ClassId) (qr : Nat) (qc : Nat) (qn : Nat) (cf : Nat → Int32) (nu : Nat → Int64) (hz : Nat) (cv : Int64)  : Met l yX0_takeConfigs wsX0_takeConfigs ({ frames := 1, cells := 0, slots := 0, locals := 21 }) (va_Pc [.ref qr, .long cv] (fun U => U.heap.size = hz ∧ va_P (dC, dI) vwCl (wRG cL cI qr qc qn cf nu) U.heap ∧ va_K (dC, dI) vwCl [(cL, .long), (cI, .int)] U ∧ va_D (fun _ => True) (wRG cL cI qr qc qn cf nu))) (va_Qv (fun _ : Unit => True) (fun _ t => va_P (dC, dI) vwCl (wRG cL cI qr qc qn (k_takeF cf cv 8) nu) t.heap ∧ va_K (dC, dI) vwCl [(cL, .long), (cI, .int)] t ∧ va_D (va_A (wRG cL cI qr qc qn cf nu) hz) (wRG cL cI qr qc qn (k_takeF cf cv 8) nu)) (va_A (wRG cL cI qr qc qn cf nu) hz)) 0 0 (va_A (wRG cL cI qr qc qn cf nu) hz) := by
  refine Met.ofW (cc := cX0_takeConfigs) (maxL := 4) (ret := none) (by decide) rfl ?_
  intro p e s m args below meth c s₁ B hml hv
  obtain ⟨rfl, hsz, hP, hK, hD0⟩ := hv
  have hx := B.exec
  have hb := B.bytes
  have hr := B.returns
  have hts := atoms_spec (ws := wsX0_takeConfigs) B.pre
  have hown : s.vm.findClass RX0 = some m.cls := findClass_of_methodNamed B.named
  have hlocks := B.notSynchronized
  subst hsz
  have hD := hD0.self (sz := s.heap.size)
  generalize hAe : va_A (wRG cL cI qr qc qn cf nu) s.heap.size = A at hD ⊢
  have hA : ∀ q : Nat, s.heap.size ≤ q → A q := fun q h => by rw [← hAe]; exact Or.inr h
  have hS : va_S A s.heap s.heap [] := va_S.rf
  have hP : va_P (dC, dI) vwCl [(qr, .inr (0, [.ref qc, .ref qn])), (qc, .inl (cI, 8, .inl cf)), (qn, .inl (cL, 8, .inr (.inl nu)))] s.heap := hP
  have hD : va_D A [(qr, .inr (0, [.ref qc, .ref qn])), (qc, .inl (cI, 8, .inl cf)), (qn, .inl (cL, 8, .inr (.inl nu)))] := hD
  have hl := lv_entry ([.ref qr, .long cv]) (n := 4) (Nat.le_of_ble_eq_true rfl)
  rw [lg_entry_eq]
  generalize (lg_sl ([.ref qr, .long cv]) ++ List.replicate (4 - (lg_sl ([.ref qr, .long cv])).length) Slot.unset).toArray = ls at hl ⊢
  have hl : lv_has ls 4 [(0, .ref qr), (1, .long cv)] := hl
  have loop : ∀ (n k : Nat) (ls : Array Slot) (H : Heap) (locs : List Loc), k ≤ 8 → 9 ≤ k + n → va_P (dC, dI) vwCl (wRG cL cI qr qc qn (k_takeF cf cv k) nu) H → va_D A (wRG cL cI qr qc qn (k_takeF cf cv k) nu) → va_S A s.heap H locs → lv_has ls 4 [(0, .ref qr), (1, .long cv), (3, .int (nI k))] → W p l e (headSpec wsX0_takeConfigs ({ frames := 1, cells := 0, slots := 0, locals := 21 })).room s m (([.ref qr, .long cv] : List Value).toArray) below meth c H locs 0 0 (MQ below (va_Qv (fun _ : Unit => True) (fun _ t => va_P (dC, dI) vwCl (wRG cL cI qr qc qn (k_takeF cf cv 8) nu) t.heap ∧ va_K (dC, dI) vwCl [(cL, .long), (cI, .int)] t ∧ va_D A (wRG cL cI qr qc qn (k_takeF cf cv 8) nu)) A) (([.ref qr, .long cv] : List Value).toArray) s 0 0 A) (F0 m 2 ls []) := by
    intro n
    induction n with
    | zero =>
      intro k ls H locs h1 h2
      exact absurd h2 (by omega)
    | succ n ih =>
      intro k ls H locs hk hn hP hD hS hl
      refine lv_iload_n hx hb dX0_takeConfigs_2 rfl (lv_at hl 2 rfl) ?_
      refine lv_bipush (v := 8) hx hb dX0_takeConfigs_3 (by decide) ?_
      refine lv_icmp_ge (tgt := 42) hx hb dX0_takeConfigs_5 (by decide) (fun c_1 => ?_) (fun c_1 => ?_)
      · have hk8 : k = 8 := k8_eq hk c_1
        have w9_0 : (k_takeF cf cv 8) = (k_takeF cf cv k) := (by first | rfl | (simp only [c_1, hk8, b2i, decide_true, decide_false, Bool.not_true, Bool.not_false, Bool.and_true, Bool.and_false, Bool.true_and, Bool.false_and, Bool.or_true, Bool.or_false, Bool.true_or, Bool.false_or, reduceIte, or_true, true_or, or_false, false_or, and_true, true_and, and_false, false_and, not_true_eq_false, not_false_eq_true, Bool.false_eq_true, eq_self]; done) | (simp [c_1, hk8]; done))
        have hP9 : va_P (dC, dI) vwCl (wRG cL cI qr qc qn (k_takeF cf cv 8) nu) H := (by rw [w9_0]; exact hP)
        have hD9 : va_D A (wRG cL cI qr qc qn (k_takeF cf cv 8) nu) := (by rw [w9_0]; exact hD)
        exact W.vret hx hb hr (fun t ht hW => ⟨⟨(), rfl, trivial, (by rw [ht]; exact hP9), va_K.moved hW.alike hK, hD9⟩, hS.F ht⟩) hS.2.2 dX0_takeConfigs_42
      · have hk8 : k < 8 := k8_lt hk c_1
        refine lv_aload_n hx hb dX0_takeConfigs_8 rfl (lv_at hl 0 rfl) ?_
        refine va_get (D := (dC, dI)) (ci := 0) (v := .ref qc) (C := RX0) (T := TX0) (N := 2) hx hb hts iwX0 hown hK hP 0 rfl rfl 0 (by decide) (hts (.fieldLink RX0 11 RX0 "configs" "[I") (wa 37 (by decide +kernel) rfl)) (fun _ h9 => h9) rfl dX0_takeConfigs_9 ?_
        refine lv_iload_n hx hb dX0_takeConfigs_12 rfl (lv_at hl 2 rfl) ?_
        refine va_iald hx hb hK hP 1 1 rfl rfl (vp_in_nI hk8 (by omega)) dX0_takeConfigs_13 ?_
        rw [nI_clamp (show k < 2 ^ 31 by omega)]
        refine vp_callSi (W.runS (As := [.int ((k_takeF cf cv k) k)]) (rest := []) ⟨hx, hb, hml, hown, hts⟩ (mtX0_isLocked l ((k_takeF cf cv k) k)) (va_cwS 1 hts (gAll (mc1 (wa 86 (by decide +kernel) rfl) (mc1 (wa 87 (by decide +kernel) rfl) (mc1 (wa 16 (by decide +kernel) rfl) mc0))) (wa 88 (by decide +kernel) rfl) (by decide +kernel)) rfl rfl rfl (by decide +kernel) ⟨Nat.le_of_ble_eq_true rfl, Nat.le_of_ble_eq_true rfl⟩) preEq rfl rfl hl.1 rfl (lv_room (Nat.le_of_ble_eq_true rfl)) dX0_takeConfigs_14 ⟨Nat.le_of_ble_eq_true rfl, Nat.le_of_ble_eq_true rfl⟩) (fun r_2 er_2 => ?_)
        have er_2 : r_2 = (b2i (k_isLocked ((k_takeF cf cv k) k))) := er_2
        subst er_2
        refine lv_if_ne (tgt := 36) hx hb dX0_takeConfigs_17 (by decide) (fun c_3 => ?_) (fun c_3 => ?_)
        · rw [b2i_z] at c_3
          rw [Bool.not_eq_false] at c_3
          refine lv_iinc (v := ((nI k) + 1)) (lv' := [(3, .int ((nI k) + 1)), (0, .ref qr), (1, .long cv)]) hx hb dX0_takeConfigs_36 hl (k := 2) rfl rfl (by decide) rfl (fun ls hl => ?_)
          refine lv_goto (tgt := 2) hx hb dX0_takeConfigs_39 (by decide) ?_
          rw [← nI_succ] at hl
          have e9 : k_takeF cf cv (k + 1) = (k_takeF cf cv k) := by simp [k_takeF, c_1, c_3]
          exact ih (k + 1) ls _ _ (by omega) (by omega) (by rw [e9]; exact hP) (by rw [e9]; exact hD) hS (lv_sub hl [1, 2, 0] rfl)
        · rw [b2i_z] at c_3
          refine lv_aload_n hx hb dX0_takeConfigs_20 rfl (lv_at hl 0 rfl) ?_
          refine va_get (D := (dC, dI)) (ci := 0) (v := .ref qc) (C := RX0) (T := TX0) (N := 2) hx hb hts iwX0 hown hK hP 0 rfl rfl 0 (by decide) (hts (.fieldLink RX0 11 RX0 "configs" "[I") (wa 37 (by decide +kernel) rfl)) (fun _ h9 => h9) rfl dX0_takeConfigs_21 ?_
          refine lv_iload_n hx hb dX0_takeConfigs_24 rfl (lv_at hl 2 rfl) ?_
          refine lv_lload_n hx hb dX0_takeConfigs_25 rfl (lv_at hl 1 rfl) ?_
          refine lv_bipush (v := 8) hx hb dX0_takeConfigs_26 (by decide) ?_
          refine lv_iload_n hx hb dX0_takeConfigs_28 rfl (lv_at hl 2 rfl) ?_
          refine lv_imul hx hb dX0_takeConfigs_29 ?_
          refine lv_lushr (v := (k_ush cv (8 * (nI k)))) hx hb dX0_takeConfigs_30 rfl ?_
          refine lv_l2i (v := Int64.toInt32 (k_ush cv (8 * (nI k)))) hx hb dX0_takeConfigs_31 rfl ?_
          refine vp_callSi (W.runS (As := [.int (Int64.toInt32 (k_ush cv (8 * (nI k))))]) (rest := [.int (nI k), .ref qc]) ⟨hx, hb, hml, hown, hts⟩ (mtX0_legalConfig l (Int64.toInt32 (k_ush cv (8 * (nI k))))) (va_cwS 1 hts (gAll (mc1 (wa 89 (by decide +kernel) rfl) (mc1 (wa 90 (by decide +kernel) rfl) (mc1 (wa 16 (by decide +kernel) rfl) mc0))) (wa 91 (by decide +kernel) rfl) (by decide +kernel)) rfl rfl rfl (by decide +kernel) ⟨Nat.le_of_ble_eq_true rfl, Nat.le_of_ble_eq_true rfl⟩) preEq rfl rfl hl.1 rfl (lv_room (Nat.le_of_ble_eq_true rfl)) dX0_takeConfigs_32 ⟨Nat.le_of_ble_eq_true rfl, Nat.le_of_ble_eq_true rfl⟩) (fun r_4 er_4 => ?_)
          have er_4 : r_4 = (k_legalConfig (Int64.toInt32 (k_ush cv (8 * (nI k))))) := er_4
          subst er_4
          refine va_iast hx hb hK hP hD hS 1 1 rfl rfl (vp_in_nI hk8 (by omega)) dX0_takeConfigs_35 (fun H locs hP hD hS => ?_)
          have hP : va_P (dC, dI) vwCl [(qr, .inr (0, [.ref qc, .ref qn])), (qc, .inl (cI, 8, .inl (upd (k_takeF cf cv k) k (k_legalConfig (Int64.toInt32 (k_ush cv (8 * (nI k)))))))), (qn, .inl (cL, 8, .inr (.inl nu)))] H := by have h9 := hP; simp only [List.set] at h9; rw [nI_clamp (show k < 2 ^ 31 by omega)] at h9; exact h9
          have hD : va_D A [(qr, .inr (0, [.ref qc, .ref qn])), (qc, .inl (cI, 8, .inl (upd (k_takeF cf cv k) k (k_legalConfig (Int64.toInt32 (k_ush cv (8 * (nI k)))))))), (qn, .inl (cL, 8, .inr (.inl nu)))] := by have h9 := hD; simp only [List.set] at h9; rw [nI_clamp (show k < 2 ^ 31 by omega)] at h9; exact h9
          refine lv_iinc (v := ((nI k) + 1)) (lv' := [(3, .int ((nI k) + 1)), (0, .ref qr), (1, .long cv)]) hx hb dX0_takeConfigs_36 hl (k := 2) rfl rfl (by decide) rfl (fun ls hl => ?_)
          refine lv_goto (tgt := 2) hx hb dX0_takeConfigs_39 (by decide) ?_
          rw [← nI_succ] at hl
          have e9 : k_takeF cf cv (k + 1) = (upd (k_takeF cf cv k) k (k_legalConfig (Int64.toInt32 (k_ush cv (8 * (nI k)))))) := by simp [k_takeF, c_1, c_3]
          exact ih (k + 1) ls _ _ (by omega) (by omega) (by rw [e9]; exact hP) (by rw [e9]; exact hD) hS (lv_sub hl [1, 2, 0] rfl)
  refine lv_iconst (v := 0) hx hb dX0_takeConfigs_0 (by decide) ?_
  refine lv_istore_n (lv' := [(3, .int 0), (0, .ref qr), (1, .long cv)]) hx hb dX0_takeConfigs_1 rfl hl (by decide) rfl (fun ls hl => ?_)
  exact loop 9 0 ls _ _ (by omega) (by omega) hP hD hS (lv_sub hl [1, 2, 0] rfl)
set_option maxHeartbeats 4000000 in
set_option maxRecDepth 100000 in
theorem mtX0_takeNumber (l : Launch) (dC : Nat → ClassId) (dI : Nat → Nat → Nat) (cL : ClassId) (cI : ClassId) (qr : Nat) (qc : Nat) (qn : Nat) (cf : Nat → Int32) (nu : Nat → Int64) (hz : Nat) (i : Int32) (v : Int64) (hi0 : ¬ i < 0) (hi8 : i < 8) : Met l yX0_takeNumber wsX0_takeNumber ({ frames := 2, cells := 0, slots := 0, locals := 40 }) (va_Pc [.ref qr, .int i, .long v] (fun U => U.heap.size = hz ∧ va_P (dC, dI) vwCl (wRG cL cI qr qc qn cf nu) U.heap ∧ va_K (dC, dI) vwCl [(cL, .long), (cI, .int)] U ∧ va_D (fun _ => True) (wRG cL cI qr qc qn cf nu))) (va_Qv (fun _ : Unit => True) (fun _ t => va_P (dC, dI) vwCl (wRG cL cI qr qc qn cf (k_takeNumber cf nu (Int32.toNatClampNeg i) v)) t.heap ∧ va_K (dC, dI) vwCl [(cL, .long), (cI, .int)] t ∧ va_D (va_A (wRG cL cI qr qc qn cf nu) hz) (wRG cL cI qr qc qn cf (k_takeNumber cf nu (Int32.toNatClampNeg i) v))) (va_A (wRG cL cI qr qc qn cf nu) hz)) 0 0 (va_A (wRG cL cI qr qc qn cf nu) hz) := by
  refine Met.ofW (cc := cX0_takeNumber) (maxL := 5) (ret := none) (by decide) rfl ?_
  intro p e s m args below meth c s₁ B hml hv
  obtain ⟨rfl, hsz, hP, hK, hD0⟩ := hv
  have hx := B.exec
  have hb := B.bytes
  have hr := B.returns
  have hts := atoms_spec (ws := wsX0_takeNumber) B.pre
  have hown : s.vm.findClass RX0 = some m.cls := findClass_of_methodNamed B.named
  have hlocks := B.notSynchronized
  subst hsz
  have hD := hD0.self (sz := s.heap.size)
  generalize hAe : va_A (wRG cL cI qr qc qn cf nu) s.heap.size = A at hD ⊢
  have hA : ∀ q : Nat, s.heap.size ≤ q → A q := fun q h => by rw [← hAe]; exact Or.inr h
  have hS : va_S A s.heap s.heap [] := va_S.rf
  have hP : va_P (dC, dI) vwCl [(qr, .inr (0, [.ref qc, .ref qn])), (qc, .inl (cI, 8, .inl cf)), (qn, .inl (cL, 8, .inr (.inl nu)))] s.heap := hP
  have hD : va_D A [(qr, .inr (0, [.ref qc, .ref qn])), (qc, .inl (cI, 8, .inl cf)), (qn, .inl (cL, 8, .inr (.inl nu)))] := hD
  have hl := lv_entry ([.ref qr, .int i, .long v]) (n := 5) (Nat.le_of_ble_eq_true rfl)
  rw [lg_entry_eq]
  generalize (lg_sl ([.ref qr, .int i, .long v]) ++ List.replicate (5 - (lg_sl ([.ref qr, .int i, .long v])).length) Slot.unset).toArray = ls at hl ⊢
  have hl : lv_has ls 5 [(0, .ref qr), (1, .int i), (2, .long v)] := hl
  refine lv_iload_n hx hb dX0_takeNumber_0 rfl (lv_at hl 1 rfl) ?_
  refine lv_if_lt (tgt := 10) hx hb dX0_takeNumber_1 (by decide) (fun c_1 => ?_) (fun c_1 => ?_)
  · first | exact absurd c_1 hi0 | exact absurd c_1 hi8 | exact absurd hi0 c_1 | exact absurd hi8 c_1
  · refine lv_iload_n hx hb dX0_takeNumber_4 rfl (lv_at hl 1 rfl) ?_
    refine lv_bipush (v := 8) hx hb dX0_takeNumber_5 (by decide) ?_
    refine lv_icmp_lt (tgt := 20) hx hb dX0_takeNumber_7 (by decide) (fun c_2 => ?_) (fun c_2 => ?_)
    · refine lv_iload_n hx hb dX0_takeNumber_20 rfl (lv_at hl 1 rfl) ?_
      refine lv_iconst (v := 1) hx hb dX0_takeNumber_21 (by decide) ?_
      refine lv_iadd hx hb dX0_takeNumber_22 ?_
      refine lv_bipush (v := 8) hx hb dX0_takeNumber_23 (by decide) ?_
      refine lv_icmp_ge (tgt := 46) hx hb dX0_takeNumber_25 (by decide) (fun c_3 => ?_) (fun c_3 => ?_)
      · have n1 : ¬ (Int32.toNatClampNeg i + 1 < 8) := i8_no hi0 hi8 c_3
        refine lv_iconst (v := 0) hx hb dX0_takeNumber_46 (by decide) ?_
        refine lv_istore (lv' := [(4, .int 0), (0, .ref qr), (1, .int i), (2, .long v)]) hx hb dX0_takeNumber_47 hl (by decide) rfl (fun ls hl => ?_)
        refine lv_aload_n hx hb dX0_takeNumber_49 rfl (lv_at hl 1 rfl) ?_
        refine va_get (D := (dC, dI)) (ci := 0) (v := .ref qc) (C := RX0) (T := TX0) (N := 2) hx hb hts iwX0 hown hK hP 0 rfl rfl 0 (by decide) (hts (.fieldLink RX0 11 RX0 "configs" "[I") (wa 37 (by decide +kernel) rfl)) (fun _ h9 => h9) rfl dX0_takeNumber_50 ?_
        refine lv_iload_n hx hb dX0_takeNumber_53 rfl (lv_at hl 2 rfl) ?_
        refine va_iald hx hb hK hP 1 1 rfl rfl (in8 hi0 hi8) dX0_takeNumber_54 ?_
        refine vp_callSi (W.runS (As := [.int (cf (Int32.toNatClampNeg i))]) (rest := []) ⟨hx, hb, hml, hown, hts⟩ (mtX0_isLocked l (cf (Int32.toNatClampNeg i))) (va_cwS 1 hts (gAll (mc1 (wa 86 (by decide +kernel) rfl) (mc1 (wa 87 (by decide +kernel) rfl) (mc1 (wa 16 (by decide +kernel) rfl) mc0))) (wa 88 (by decide +kernel) rfl) (by decide +kernel)) rfl rfl rfl (by decide +kernel) ⟨Nat.le_of_ble_eq_true rfl, Nat.le_of_ble_eq_true rfl⟩) preEq rfl rfl hl.1 rfl (lv_room (Nat.le_of_ble_eq_true rfl)) dX0_takeNumber_55 ⟨Nat.le_of_ble_eq_true rfl, Nat.le_of_ble_eq_true rfl⟩) (fun r_4 er_4 => ?_)
        have er_4 : r_4 = (b2i (k_isLocked (cf (Int32.toNatClampNeg i)))) := er_4
        subst er_4
        refine lv_if_ne (tgt := 77) hx hb dX0_takeNumber_58 (by decide) (fun c_5 => ?_) (fun c_5 => ?_)
        · rw [b2i_z] at c_5
          rw [Bool.not_eq_false] at c_5
          have w9_0 : (k_takeNumber cf nu (Int32.toNatClampNeg i) v) = nu := (by first | rfl | (simp only [k_takeNumber, k_isFixed, c_1, c_2, c_3, c_5, n1, b2i, decide_true, decide_false, Bool.not_true, Bool.not_false, Bool.and_true, Bool.and_false, Bool.true_and, Bool.false_and, Bool.or_true, Bool.or_false, Bool.true_or, Bool.false_or, reduceIte, or_true, true_or, or_false, false_or, and_true, true_and, and_false, false_and, not_true_eq_false, not_false_eq_true, Bool.false_eq_true, eq_self]; done) | (simp [k_takeNumber, k_isFixed, c_1, c_2, c_3, c_5, n1]; done))
          have hP9 : va_P (dC, dI) vwCl (wRG cL cI qr qc qn cf (k_takeNumber cf nu (Int32.toNatClampNeg i) v)) s.heap := (by rw [w9_0]; exact hP)
          have hD9 : va_D A (wRG cL cI qr qc qn cf (k_takeNumber cf nu (Int32.toNatClampNeg i) v)) := (by rw [w9_0]; exact hD)
          exact W.vret hx hb hr (fun t ht hW => ⟨⟨(), rfl, trivial, (by rw [ht]; exact hP9), va_K.moved hW.alike hK, hD9⟩, hS.F ht⟩) hS.2.2 dX0_takeNumber_77
        · rw [b2i_z] at c_5
          refine lv_iload hx hb dX0_takeNumber_61 (lv_at hl 0 rfl) ?_
          refine lv_if_ne (tgt := 77) hx hb dX0_takeNumber_63 (by decide) (fun c_6 => ?_) (fun c_6 => ?_)
          · first | exact absurd c_6 (by decide) | exact absurd (by decide) c_6
          · refine lv_aload_n hx hb dX0_takeNumber_66 rfl (lv_at hl 1 rfl) ?_
            refine va_get (D := (dC, dI)) (ci := 0) (v := .ref qn) (C := RX0) (T := TX0) (N := 2) hx hb hts iwX0 hown hK hP 0 rfl rfl 1 (by decide) (hts (.fieldLink RX0 15 RX0 "numbers" "[J") (wa 38 (by decide +kernel) rfl)) (fun _ h9 => h9) rfl dX0_takeNumber_67 ?_
            refine lv_iload_n hx hb dX0_takeNumber_70 rfl (lv_at hl 2 rfl) ?_
            refine lv_lload_n hx hb dX0_takeNumber_71 rfl (lv_at hl 3 rfl) ?_
            refine lv_ldc2 (v := 18014398509481983) hx hb hown (hts (.constantLong RX0 37 18014398509481983) (wa 242 (by decide +kernel) rfl)) dX0_takeNumber_72 ?_
            refine lv_land hx hb dX0_takeNumber_75 ?_
            refine va_last hx hb hK hP hD hS 2 0 rfl rfl (in8 hi0 hi8) dX0_takeNumber_76 (fun H locs hP hD hS => ?_)
            have hP : va_P (dC, dI) vwCl [(qr, .inr (0, [.ref qc, .ref qn])), (qc, .inl (cI, 8, .inl cf)), (qn, .inl (cL, 8, .inr (.inl (vp_updL nu (Int32.toNatClampNeg i) (v &&& 18014398509481983)))))] H := hP
            have hD : va_D A [(qr, .inr (0, [.ref qc, .ref qn])), (qc, .inl (cI, 8, .inl cf)), (qn, .inl (cL, 8, .inr (.inl (vp_updL nu (Int32.toNatClampNeg i) (v &&& 18014398509481983)))))] := hD
            have w9_0 : (k_takeNumber cf nu (Int32.toNatClampNeg i) v) = (vp_updL nu (Int32.toNatClampNeg i) (v &&& 18014398509481983)) := (by first | rfl | (simp only [k_takeNumber, k_isFixed, c_1, c_2, c_3, c_5, n1, b2i, decide_true, decide_false, Bool.not_true, Bool.not_false, Bool.and_true, Bool.and_false, Bool.true_and, Bool.false_and, Bool.or_true, Bool.or_false, Bool.true_or, Bool.false_or, reduceIte, or_true, true_or, or_false, false_or, and_true, true_and, and_false, false_and, not_true_eq_false, not_false_eq_true, Bool.false_eq_true, eq_self]; done) | (simp [k_takeNumber, k_isFixed, c_1, c_2, c_3, c_5, n1]; done))
            have hP9 : va_P (dC, dI) vwCl (wRG cL cI qr qc qn cf (k_takeNumber cf nu (Int32.toNatClampNeg i) v)) H := (by rw [w9_0]; exact hP)
            have hD9 : va_D A (wRG cL cI qr qc qn cf (k_takeNumber cf nu (Int32.toNatClampNeg i) v)) := (by rw [w9_0]; exact hD)
            exact W.vret hx hb hr (fun t ht hW => ⟨⟨(), rfl, trivial, (by rw [ht]; exact hP9), va_K.moved hW.alike hK, hD9⟩, hS.F ht⟩) hS.2.2 dX0_takeNumber_77
      · have n1 : Int32.toNatClampNeg i + 1 < 8 := i8_yes hi0 hi8 c_3
        refine lv_aload_n hx hb dX0_takeNumber_28 rfl (lv_at hl 0 rfl) ?_
        refine va_get (D := (dC, dI)) (ci := 0) (v := .ref qc) (C := RX0) (T := TX0) (N := 2) hx hb hts iwX0 hown hK hP 0 rfl rfl 0 (by decide) (hts (.fieldLink RX0 11 RX0 "configs" "[I") (wa 37 (by decide +kernel) rfl)) (fun _ h9 => h9) rfl dX0_takeNumber_29 ?_
        refine lv_iload_n hx hb dX0_takeNumber_32 rfl (lv_at hl 1 rfl) ?_
        refine lv_iconst (v := 1) hx hb dX0_takeNumber_33 (by decide) ?_
        refine lv_iadd hx hb dX0_takeNumber_34 ?_
        refine va_iald hx hb hK hP 1 1 rfl rfl (i8_in hi0 hi8 n1) dX0_takeNumber_35 ?_
        rw [i8_cl hi0 hi8]
        refine vp_callSi (W.runS (As := [.int (cf (Int32.toNatClampNeg i + 1))]) (rest := []) ⟨hx, hb, hml, hown, hts⟩ (mtX0_fixesNumberBefore l (cf (Int32.toNatClampNeg i + 1))) (va_cwS 1 hts (gAll (mc1 (wa 236 (by decide +kernel) rfl) (mc1 (wa 237 (by decide +kernel) rfl) (mc1 (wa 16 (by decide +kernel) rfl) mc0))) (wa 238 (by decide +kernel) rfl) (by decide +kernel)) rfl rfl rfl (by decide +kernel) ⟨Nat.le_of_ble_eq_true rfl, Nat.le_of_ble_eq_true rfl⟩) preEq rfl rfl hl.1 rfl (lv_room (Nat.le_of_ble_eq_true rfl)) dX0_takeNumber_36 ⟨Nat.le_of_ble_eq_true rfl, Nat.le_of_ble_eq_true rfl⟩) (fun r_7 er_7 => ?_)
        have er_7 : r_7 = (b2i (k_fixes (cf (Int32.toNatClampNeg i + 1)))) := er_7
        subst er_7
        refine lv_if_eq (tgt := 46) hx hb dX0_takeNumber_39 (by decide) (fun c_8 => ?_) (fun c_8 => ?_)
        · rw [b2i_z] at c_8
          refine lv_iconst (v := 0) hx hb dX0_takeNumber_46 (by decide) ?_
          refine lv_istore (lv' := [(4, .int 0), (0, .ref qr), (1, .int i), (2, .long v)]) hx hb dX0_takeNumber_47 hl (by decide) rfl (fun ls hl => ?_)
          refine lv_aload_n hx hb dX0_takeNumber_49 rfl (lv_at hl 1 rfl) ?_
          refine va_get (D := (dC, dI)) (ci := 0) (v := .ref qc) (C := RX0) (T := TX0) (N := 2) hx hb hts iwX0 hown hK hP 0 rfl rfl 0 (by decide) (hts (.fieldLink RX0 11 RX0 "configs" "[I") (wa 37 (by decide +kernel) rfl)) (fun _ h9 => h9) rfl dX0_takeNumber_50 ?_
          refine lv_iload_n hx hb dX0_takeNumber_53 rfl (lv_at hl 2 rfl) ?_
          refine va_iald hx hb hK hP 1 1 rfl rfl (in8 hi0 hi8) dX0_takeNumber_54 ?_
          refine vp_callSi (W.runS (As := [.int (cf (Int32.toNatClampNeg i))]) (rest := []) ⟨hx, hb, hml, hown, hts⟩ (mtX0_isLocked l (cf (Int32.toNatClampNeg i))) (va_cwS 1 hts (gAll (mc1 (wa 86 (by decide +kernel) rfl) (mc1 (wa 87 (by decide +kernel) rfl) (mc1 (wa 16 (by decide +kernel) rfl) mc0))) (wa 88 (by decide +kernel) rfl) (by decide +kernel)) rfl rfl rfl (by decide +kernel) ⟨Nat.le_of_ble_eq_true rfl, Nat.le_of_ble_eq_true rfl⟩) preEq rfl rfl hl.1 rfl (lv_room (Nat.le_of_ble_eq_true rfl)) dX0_takeNumber_55 ⟨Nat.le_of_ble_eq_true rfl, Nat.le_of_ble_eq_true rfl⟩) (fun r_9 er_9 => ?_)
          have er_9 : r_9 = (b2i (k_isLocked (cf (Int32.toNatClampNeg i)))) := er_9
          subst er_9
          refine lv_if_ne (tgt := 77) hx hb dX0_takeNumber_58 (by decide) (fun c_10 => ?_) (fun c_10 => ?_)
          · rw [b2i_z] at c_10
            rw [Bool.not_eq_false] at c_10
            have w9_0 : (k_takeNumber cf nu (Int32.toNatClampNeg i) v) = nu := (by first | rfl | (simp only [k_takeNumber, k_isFixed, c_1, c_2, c_3, c_8, c_10, n1, b2i, decide_true, decide_false, Bool.not_true, Bool.not_false, Bool.and_true, Bool.and_false, Bool.true_and, Bool.false_and, Bool.or_true, Bool.or_false, Bool.true_or, Bool.false_or, reduceIte, or_true, true_or, or_false, false_or, and_true, true_and, and_false, false_and, not_true_eq_false, not_false_eq_true, Bool.false_eq_true, eq_self]; done) | (simp [k_takeNumber, k_isFixed, c_1, c_2, c_3, c_8, c_10, n1]; done))
            have hP9 : va_P (dC, dI) vwCl (wRG cL cI qr qc qn cf (k_takeNumber cf nu (Int32.toNatClampNeg i) v)) s.heap := (by rw [w9_0]; exact hP)
            have hD9 : va_D A (wRG cL cI qr qc qn cf (k_takeNumber cf nu (Int32.toNatClampNeg i) v)) := (by rw [w9_0]; exact hD)
            exact W.vret hx hb hr (fun t ht hW => ⟨⟨(), rfl, trivial, (by rw [ht]; exact hP9), va_K.moved hW.alike hK, hD9⟩, hS.F ht⟩) hS.2.2 dX0_takeNumber_77
          · rw [b2i_z] at c_10
            refine lv_iload hx hb dX0_takeNumber_61 (lv_at hl 0 rfl) ?_
            refine lv_if_ne (tgt := 77) hx hb dX0_takeNumber_63 (by decide) (fun c_11 => ?_) (fun c_11 => ?_)
            · first | exact absurd c_11 (by decide) | exact absurd (by decide) c_11
            · refine lv_aload_n hx hb dX0_takeNumber_66 rfl (lv_at hl 1 rfl) ?_
              refine va_get (D := (dC, dI)) (ci := 0) (v := .ref qn) (C := RX0) (T := TX0) (N := 2) hx hb hts iwX0 hown hK hP 0 rfl rfl 1 (by decide) (hts (.fieldLink RX0 15 RX0 "numbers" "[J") (wa 38 (by decide +kernel) rfl)) (fun _ h9 => h9) rfl dX0_takeNumber_67 ?_
              refine lv_iload_n hx hb dX0_takeNumber_70 rfl (lv_at hl 2 rfl) ?_
              refine lv_lload_n hx hb dX0_takeNumber_71 rfl (lv_at hl 3 rfl) ?_
              refine lv_ldc2 (v := 18014398509481983) hx hb hown (hts (.constantLong RX0 37 18014398509481983) (wa 242 (by decide +kernel) rfl)) dX0_takeNumber_72 ?_
              refine lv_land hx hb dX0_takeNumber_75 ?_
              refine va_last hx hb hK hP hD hS 2 0 rfl rfl (in8 hi0 hi8) dX0_takeNumber_76 (fun H locs hP hD hS => ?_)
              have hP : va_P (dC, dI) vwCl [(qr, .inr (0, [.ref qc, .ref qn])), (qc, .inl (cI, 8, .inl cf)), (qn, .inl (cL, 8, .inr (.inl (vp_updL nu (Int32.toNatClampNeg i) (v &&& 18014398509481983)))))] H := hP
              have hD : va_D A [(qr, .inr (0, [.ref qc, .ref qn])), (qc, .inl (cI, 8, .inl cf)), (qn, .inl (cL, 8, .inr (.inl (vp_updL nu (Int32.toNatClampNeg i) (v &&& 18014398509481983)))))] := hD
              have w9_0 : (k_takeNumber cf nu (Int32.toNatClampNeg i) v) = (vp_updL nu (Int32.toNatClampNeg i) (v &&& 18014398509481983)) := (by first | rfl | (simp only [k_takeNumber, k_isFixed, c_1, c_2, c_3, c_8, c_10, n1, b2i, decide_true, decide_false, Bool.not_true, Bool.not_false, Bool.and_true, Bool.and_false, Bool.true_and, Bool.false_and, Bool.or_true, Bool.or_false, Bool.true_or, Bool.false_or, reduceIte, or_true, true_or, or_false, false_or, and_true, true_and, and_false, false_and, not_true_eq_false, not_false_eq_true, Bool.false_eq_true, eq_self]; done) | (simp [k_takeNumber, k_isFixed, c_1, c_2, c_3, c_8, c_10, n1]; done))
              have hP9 : va_P (dC, dI) vwCl (wRG cL cI qr qc qn cf (k_takeNumber cf nu (Int32.toNatClampNeg i) v)) H := (by rw [w9_0]; exact hP)
              have hD9 : va_D A (wRG cL cI qr qc qn cf (k_takeNumber cf nu (Int32.toNatClampNeg i) v)) := (by rw [w9_0]; exact hD)
              exact W.vret hx hb hr (fun t ht hW => ⟨⟨(), rfl, trivial, (by rw [ht]; exact hP9), va_K.moved hW.alike hK, hD9⟩, hS.F ht⟩) hS.2.2 dX0_takeNumber_77
        · rw [b2i_z] at c_8
          rw [Bool.not_eq_false] at c_8
          refine lv_iconst (v := 1) hx hb dX0_takeNumber_42 (by decide) ?_
          refine lv_goto (tgt := 47) hx hb dX0_takeNumber_43 (by decide) ?_
          refine lv_istore (lv' := [(4, .int 1), (0, .ref qr), (1, .int i), (2, .long v)]) hx hb dX0_takeNumber_47 hl (by decide) rfl (fun ls hl => ?_)
          refine lv_aload_n hx hb dX0_takeNumber_49 rfl (lv_at hl 1 rfl) ?_
          refine va_get (D := (dC, dI)) (ci := 0) (v := .ref qc) (C := RX0) (T := TX0) (N := 2) hx hb hts iwX0 hown hK hP 0 rfl rfl 0 (by decide) (hts (.fieldLink RX0 11 RX0 "configs" "[I") (wa 37 (by decide +kernel) rfl)) (fun _ h9 => h9) rfl dX0_takeNumber_50 ?_
          refine lv_iload_n hx hb dX0_takeNumber_53 rfl (lv_at hl 2 rfl) ?_
          refine va_iald hx hb hK hP 1 1 rfl rfl (in8 hi0 hi8) dX0_takeNumber_54 ?_
          refine vp_callSi (W.runS (As := [.int (cf (Int32.toNatClampNeg i))]) (rest := []) ⟨hx, hb, hml, hown, hts⟩ (mtX0_isLocked l (cf (Int32.toNatClampNeg i))) (va_cwS 1 hts (gAll (mc1 (wa 86 (by decide +kernel) rfl) (mc1 (wa 87 (by decide +kernel) rfl) (mc1 (wa 16 (by decide +kernel) rfl) mc0))) (wa 88 (by decide +kernel) rfl) (by decide +kernel)) rfl rfl rfl (by decide +kernel) ⟨Nat.le_of_ble_eq_true rfl, Nat.le_of_ble_eq_true rfl⟩) preEq rfl rfl hl.1 rfl (lv_room (Nat.le_of_ble_eq_true rfl)) dX0_takeNumber_55 ⟨Nat.le_of_ble_eq_true rfl, Nat.le_of_ble_eq_true rfl⟩) (fun r_12 er_12 => ?_)
          have er_12 : r_12 = (b2i (k_isLocked (cf (Int32.toNatClampNeg i)))) := er_12
          subst er_12
          refine lv_if_ne (tgt := 77) hx hb dX0_takeNumber_58 (by decide) (fun c_13 => ?_) (fun c_13 => ?_)
          · rw [b2i_z] at c_13
            rw [Bool.not_eq_false] at c_13
            have w9_0 : (k_takeNumber cf nu (Int32.toNatClampNeg i) v) = nu := (by first | rfl | (simp only [k_takeNumber, k_isFixed, c_1, c_2, c_3, c_8, c_13, n1, b2i, decide_true, decide_false, Bool.not_true, Bool.not_false, Bool.and_true, Bool.and_false, Bool.true_and, Bool.false_and, Bool.or_true, Bool.or_false, Bool.true_or, Bool.false_or, reduceIte, or_true, true_or, or_false, false_or, and_true, true_and, and_false, false_and, not_true_eq_false, not_false_eq_true, Bool.false_eq_true, eq_self]; done) | (simp [k_takeNumber, k_isFixed, c_1, c_2, c_3, c_8, c_13, n1]; done))
            have hP9 : va_P (dC, dI) vwCl (wRG cL cI qr qc qn cf (k_takeNumber cf nu (Int32.toNatClampNeg i) v)) s.heap := (by rw [w9_0]; exact hP)
            have hD9 : va_D A (wRG cL cI qr qc qn cf (k_takeNumber cf nu (Int32.toNatClampNeg i) v)) := (by rw [w9_0]; exact hD)
            exact W.vret hx hb hr (fun t ht hW => ⟨⟨(), rfl, trivial, (by rw [ht]; exact hP9), va_K.moved hW.alike hK, hD9⟩, hS.F ht⟩) hS.2.2 dX0_takeNumber_77
          · rw [b2i_z] at c_13
            refine lv_iload hx hb dX0_takeNumber_61 (lv_at hl 0 rfl) ?_
            refine lv_if_ne (tgt := 77) hx hb dX0_takeNumber_63 (by decide) (fun c_14 => ?_) (fun c_14 => ?_)
            · have w9_0 : (k_takeNumber cf nu (Int32.toNatClampNeg i) v) = nu := (by first | rfl | (simp only [k_takeNumber, k_isFixed, c_1, c_2, c_3, c_8, c_13, n1, b2i, decide_true, decide_false, Bool.not_true, Bool.not_false, Bool.and_true, Bool.and_false, Bool.true_and, Bool.false_and, Bool.or_true, Bool.or_false, Bool.true_or, Bool.false_or, reduceIte, or_true, true_or, or_false, false_or, and_true, true_and, and_false, false_and, not_true_eq_false, not_false_eq_true, Bool.false_eq_true, eq_self]; done) | (simp [k_takeNumber, k_isFixed, c_1, c_2, c_3, c_8, c_13, n1]; done))
              have hP9 : va_P (dC, dI) vwCl (wRG cL cI qr qc qn cf (k_takeNumber cf nu (Int32.toNatClampNeg i) v)) s.heap := (by rw [w9_0]; exact hP)
              have hD9 : va_D A (wRG cL cI qr qc qn cf (k_takeNumber cf nu (Int32.toNatClampNeg i) v)) := (by rw [w9_0]; exact hD)
              exact W.vret hx hb hr (fun t ht hW => ⟨⟨(), rfl, trivial, (by rw [ht]; exact hP9), va_K.moved hW.alike hK, hD9⟩, hS.F ht⟩) hS.2.2 dX0_takeNumber_77
            · first | exact absurd c_14 (by decide) | exact absurd (by decide) c_14
    · first | exact absurd c_1 hi0 | exact absurd c_1 hi8 | exact absurd c_2 hi0 | exact absurd c_2 hi8 | exact absurd hi0 c_1 | exact absurd hi8 c_1 | exact absurd hi0 c_2 | exact absurd hi8 c_2
