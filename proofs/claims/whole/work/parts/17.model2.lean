set_option maxHeartbeats 4000000 in
set_option maxRecDepth 100000 in
theorem mtX2_fence (l : Launch) (dC : Nat → ClassId) (dI : Nat → Nat → Nat) (cL : ClassId) (cI : ClassId) (g0 : Nat) (gm : Nat) (gc : Nat) (gn : Nat) (cd : Int32) (w : Nat → Int64) (tb : Int64) (su : Bool) (mx : Bool) (cf : Nat → Int32) (nu : Nat → Int64) (fr : Int64) (tt : Int64) (hz : Nat)   : Met l yX2_fence wsX2_fence ({ frames := 0, cells := 0, slots := 0, locals := 0 }) (va_Pc [.ref g0] (fun U => U.heap.size = hz ∧ va_P (dC, dI) vwCl (wMD cL cI g0 gm gc gn cd w tb su mx cf nu fr tt) U.heap ∧ va_K (dC, dI) vwCl [(cL, .long), (cI, .int)] U ∧ va_D (fun _ => True) (wMD cL cI g0 gm gc gn cd w tb su mx cf nu fr tt))) (va_Qv (fun _ : Unit => True) (fun _ t => va_P (dC, dI) vwCl (wMD cL cI g0 gm gc gn 0 w tb su mx cf nu fr tt) t.heap ∧ va_K (dC, dI) vwCl [(cL, .long), (cI, .int)] t ∧ va_D (va_A (wMD cL cI g0 gm gc gn cd w tb su mx cf nu fr tt) hz) (wMD cL cI g0 gm gc gn 0 w tb su mx cf nu fr tt)) (va_A (wMD cL cI g0 gm gc gn cd w tb su mx cf nu fr tt) hz)) 0 0 (va_A (wMD cL cI g0 gm gc gn cd w tb su mx cf nu fr tt) hz) := by
  refine Met.ofW (cc := cX2_fence) (maxL := 1) (ret := none) (by decide) rfl ?_
  intro p e s m args below meth c s₁ B hml hv
  obtain ⟨rfl, hsz, hP, hK, hD0⟩ := hv
  have hx := B.exec
  have hb := B.bytes
  have hr := B.returns
  have hts := atoms_spec (ws := wsX2_fence) B.pre
  have hown : s.vm.findClass RX2 = some m.cls := findClass_of_methodNamed B.named
  have hlocks := B.notSynchronized
  subst hsz
  have hD := hD0.self (sz := s.heap.size)
  generalize hAe : va_A (wMD cL cI g0 gm gc gn cd w tb su mx cf nu fr tt) s.heap.size = A at hD ⊢
  have hA : ∀ q : Nat, s.heap.size ≤ q → A q := fun q h => by rw [← hAe]; exact Or.inr h
  have hS : va_S A s.heap s.heap [] := va_S.rf
  have hP : va_P (dC, dI) vwCl [(g0, .inr (2, [.int cd, .ref gm, .long tb, .int (b2i su), .int (b2i mx), .ref gc, .ref gn, .long fr, .long tt])), (gm, .inl (cL, 8192, .inr (.inl w))), (gc, .inl (cI, 8, .inl cf)), (gn, .inl (cL, 8, .inr (.inl nu)))] s.heap := hP
  have hD : va_D A [(g0, .inr (2, [.int cd, .ref gm, .long tb, .int (b2i su), .int (b2i mx), .ref gc, .ref gn, .long fr, .long tt])), (gm, .inl (cL, 8192, .inr (.inl w))), (gc, .inl (cI, 8, .inl cf)), (gn, .inl (cL, 8, .inr (.inl nu)))] := hD
  have hl := lv_entry ([.ref g0]) (n := 1) (Nat.le_of_ble_eq_true rfl)
  rw [lg_entry_eq]
  generalize (lg_sl ([.ref g0]) ++ List.replicate (1 - (lg_sl ([.ref g0])).length) Slot.unset).toArray = ls at hl ⊢
  have hl : lv_has ls 1 [(0, .ref g0)] := hl
  refine lv_aload_n hx hb dX2_fence_0 rfl (lv_at hl 0 rfl) ?_
  refine lv_iconst (v := 0) hx hb dX2_fence_1 (by decide) ?_
  refine va_put (D := (dC, dI)) (ci := 2) (v := .int 0) (ty := .int) (C := RX2) (T := TX2) (N := 9) hx hb hts iwX2 tyX2 tyX2_ok nmX2 hown hK hP hD hS 0 rfl rfl 0 (by decide) (hts (.fieldLink RX2 20 RX2 "code" "I") (wa 355 (by decide +kernel) rfl)) (fun _ h9 => h9) rfl (by decide +kernel) rfl rfl (Nat.le_of_ble_eq_true rfl) dX2_fence_2 (fun H locs hP hD hS => ?_)
  have hP : va_P (dC, dI) vwCl [(g0, .inr (2, [.int 0, .ref gm, .long tb, .int (b2i su), .int (b2i mx), .ref gc, .ref gn, .long fr, .long tt])), (gm, .inl (cL, 8192, .inr (.inl w))), (gc, .inl (cI, 8, .inl cf)), (gn, .inl (cL, 8, .inr (.inl nu)))] H := hP
  have hD : va_D A [(g0, .inr (2, [.int 0, .ref gm, .long tb, .int (b2i su), .int (b2i mx), .ref gc, .ref gn, .long fr, .long tt])), (gm, .inl (cL, 8192, .inr (.inl w))), (gc, .inl (cI, 8, .inl cf)), (gn, .inl (cL, 8, .inr (.inl nu)))] := hD
  have hP9 : va_P (dC, dI) vwCl (wMD cL cI g0 gm gc gn 0 w tb su mx cf nu fr tt) H := hP
  have hD9 : va_D A (wMD cL cI g0 gm gc gn 0 w tb su mx cf nu fr tt) := hD
  exact W.vret hx hb hr (fun t ht hW => ⟨⟨(), rfl, trivial, (by rw [ht]; exact hP9), va_K.moved hW.alike hK, hD9⟩, hS.F ht⟩) hS.2.2 dX2_fence_5
set_option maxHeartbeats 4000000 in
set_option maxRecDepth 100000 in
theorem mtX2_table (l : Launch) (dC : Nat → ClassId) (dI : Nat → Nat → Nat) (cL : ClassId) (cI : ClassId) (g0 : Nat) (gm : Nat) (gc : Nat) (gn : Nat) (cd : Int32) (w : Nat → Int64) (tb : Int64) (su : Bool) (mx : Bool) (cf : Nat → Int32) (nu : Nat → Int64) (fr : Int64) (tt : Int64) (hz : Nat)   : Met l yX2_table wsX2_table ({ frames := 0, cells := 0, slots := 0, locals := 0 }) (va_Pc [.ref g0] (fun U => U.heap.size = hz ∧ va_P (dC, dI) vwCl (wMD cL cI g0 gm gc gn cd w tb su mx cf nu fr tt) U.heap ∧ va_K (dC, dI) vwCl [(cL, .long), (cI, .int)] U ∧ va_D (fun _ => True) (wMD cL cI g0 gm gc gn cd w tb su mx cf nu fr tt))) (va_Ql (fun r (_ : Unit) => r = tb) (fun _ t => va_P (dC, dI) vwCl (wMD cL cI g0 gm gc gn 0 w tb su mx cf nu fr tt) t.heap ∧ va_K (dC, dI) vwCl [(cL, .long), (cI, .int)] t ∧ va_D (va_A (wMD cL cI g0 gm gc gn cd w tb su mx cf nu fr tt) hz) (wMD cL cI g0 gm gc gn 0 w tb su mx cf nu fr tt)) (va_A (wMD cL cI g0 gm gc gn cd w tb su mx cf nu fr tt) hz)) 0 0 (va_A (wMD cL cI g0 gm gc gn cd w tb su mx cf nu fr tt) hz) := by
  refine Met.ofW (cc := cX2_table) (maxL := 1) (ret := (some .long)) (by decide) rfl ?_
  intro p e s m args below meth c s₁ B hml hv
  obtain ⟨rfl, hsz, hP, hK, hD0⟩ := hv
  have hx := B.exec
  have hb := B.bytes
  have hr := B.returns
  have hts := atoms_spec (ws := wsX2_table) B.pre
  have hown : s.vm.findClass RX2 = some m.cls := findClass_of_methodNamed B.named
  have hlocks := B.notSynchronized
  subst hsz
  have hD := hD0.self (sz := s.heap.size)
  generalize hAe : va_A (wMD cL cI g0 gm gc gn cd w tb su mx cf nu fr tt) s.heap.size = A at hD ⊢
  have hA : ∀ q : Nat, s.heap.size ≤ q → A q := fun q h => by rw [← hAe]; exact Or.inr h
  have hS : va_S A s.heap s.heap [] := va_S.rf
  have hP : va_P (dC, dI) vwCl [(g0, .inr (2, [.int cd, .ref gm, .long tb, .int (b2i su), .int (b2i mx), .ref gc, .ref gn, .long fr, .long tt])), (gm, .inl (cL, 8192, .inr (.inl w))), (gc, .inl (cI, 8, .inl cf)), (gn, .inl (cL, 8, .inr (.inl nu)))] s.heap := hP
  have hD : va_D A [(g0, .inr (2, [.int cd, .ref gm, .long tb, .int (b2i su), .int (b2i mx), .ref gc, .ref gn, .long fr, .long tt])), (gm, .inl (cL, 8192, .inr (.inl w))), (gc, .inl (cI, 8, .inl cf)), (gn, .inl (cL, 8, .inr (.inl nu)))] := hD
  have hl := lv_entry ([.ref g0]) (n := 1) (Nat.le_of_ble_eq_true rfl)
  rw [lg_entry_eq]
  generalize (lg_sl ([.ref g0]) ++ List.replicate (1 - (lg_sl ([.ref g0])).length) Slot.unset).toArray = ls at hl ⊢
  have hl : lv_has ls 1 [(0, .ref g0)] := hl
  refine lv_aload_n hx hb dX2_table_0 rfl (lv_at hl 0 rfl) ?_
  refine lv_iconst (v := 0) hx hb dX2_table_1 (by decide) ?_
  refine va_put (D := (dC, dI)) (ci := 2) (v := .int 0) (ty := .int) (C := RX2) (T := TX2) (N := 9) hx hb hts iwX2 tyX2 tyX2_ok nmX2 hown hK hP hD hS 0 rfl rfl 0 (by decide) (hts (.fieldLink RX2 20 RX2 "code" "I") (wa 355 (by decide +kernel) rfl)) (fun _ h9 => h9) rfl (by decide +kernel) rfl rfl (Nat.le_of_ble_eq_true rfl) dX2_table_2 (fun H locs hP hD hS => ?_)
  have hP : va_P (dC, dI) vwCl [(g0, .inr (2, [.int 0, .ref gm, .long tb, .int (b2i su), .int (b2i mx), .ref gc, .ref gn, .long fr, .long tt])), (gm, .inl (cL, 8192, .inr (.inl w))), (gc, .inl (cI, 8, .inl cf)), (gn, .inl (cL, 8, .inr (.inl nu)))] H := hP
  have hD : va_D A [(g0, .inr (2, [.int 0, .ref gm, .long tb, .int (b2i su), .int (b2i mx), .ref gc, .ref gn, .long fr, .long tt])), (gm, .inl (cL, 8192, .inr (.inl w))), (gc, .inl (cI, 8, .inl cf)), (gn, .inl (cL, 8, .inr (.inl nu)))] := hD
  refine lv_aload_n hx hb dX2_table_5 rfl (lv_at hl 0 rfl) ?_
  refine va_get (D := (dC, dI)) (ci := 2) (v := .long tb) (C := RX2) (T := TX2) (N := 9) hx hb hts iwX2 hown hK hP 0 rfl rfl 2 (by decide) (hts (.fieldLink RX2 38 RX2 "table" "J") (wa 357 (by decide +kernel) rfl)) (fun _ h9 => h9) rfl dX2_table_6 ?_
  have hP9 : va_P (dC, dI) vwCl (wMD cL cI g0 gm gc gn 0 w tb su mx cf nu fr tt) H := hP
  have hD9 : va_D A (wMD cL cI g0 gm gc gn 0 w tb su mx cf nu fr tt) := hD
  exact W.lret (v := tb) hx hb hr (fun t ht hW => ⟨⟨tb, (), rfl, (by first | rfl | (simp only [b2i, decide_true, decide_false, Bool.not_true, Bool.not_false, Bool.and_true, Bool.and_false, Bool.true_and, Bool.false_and, Bool.or_true, Bool.or_false, Bool.true_or, Bool.false_or, reduceIte, or_true, true_or, or_false, false_or, and_true, true_and, and_false, false_and, not_true_eq_false, not_false_eq_true, Bool.false_eq_true, eq_self]; done) | (simp []; done)), (by rw [ht]; exact hP9), va_K.moved hW.alike hK, hD9⟩, hS.F ht⟩) hS.2.2 dX2_table_9
set_option maxHeartbeats 4000000 in
set_option maxRecDepth 100000 in
theorem mtX2_rights (l : Launch) (dC : Nat → ClassId) (dI : Nat → Nat → Nat) (cL : ClassId) (cI : ClassId) (g0 : Nat) (gm : Nat) (gc : Nat) (gn : Nat) (cd : Int32) (w : Nat → Int64) (tb : Int64) (su : Bool) (mx : Bool) (cf : Nat → Int32) (nu : Nat → Int64) (fr : Int64) (tt : Int64) (hz : Nat) (s1 : Bool) (s2 : Bool)  : Met l yX2_rights wsX2_rights ({ frames := 0, cells := 0, slots := 0, locals := 0 }) (va_Pc [.ref g0, .int (b2i s1), .int (b2i s2)] (fun U => U.heap.size = hz ∧ va_P (dC, dI) vwCl (wMD cL cI g0 gm gc gn cd w tb su mx cf nu fr tt) U.heap ∧ va_K (dC, dI) vwCl [(cL, .long), (cI, .int)] U ∧ va_D (fun _ => True) (wMD cL cI g0 gm gc gn cd w tb su mx cf nu fr tt))) (va_Qv (fun _ : Unit => True) (fun _ t => va_P (dC, dI) vwCl (wMD cL cI g0 gm gc gn 0 w tb s1 s2 cf nu fr tt) t.heap ∧ va_K (dC, dI) vwCl [(cL, .long), (cI, .int)] t ∧ va_D (va_A (wMD cL cI g0 gm gc gn cd w tb su mx cf nu fr tt) hz) (wMD cL cI g0 gm gc gn 0 w tb s1 s2 cf nu fr tt)) (va_A (wMD cL cI g0 gm gc gn cd w tb su mx cf nu fr tt) hz)) 0 0 (va_A (wMD cL cI g0 gm gc gn cd w tb su mx cf nu fr tt) hz) := by
  refine Met.ofW (cc := cX2_rights) (maxL := 3) (ret := none) (by decide) rfl ?_
  intro p e s m args below meth c s₁ B hml hv
  obtain ⟨rfl, hsz, hP, hK, hD0⟩ := hv
  have hx := B.exec
  have hb := B.bytes
  have hr := B.returns
  have hts := atoms_spec (ws := wsX2_rights) B.pre
  have hown : s.vm.findClass RX2 = some m.cls := findClass_of_methodNamed B.named
  have hlocks := B.notSynchronized
  subst hsz
  have hD := hD0.self (sz := s.heap.size)
  generalize hAe : va_A (wMD cL cI g0 gm gc gn cd w tb su mx cf nu fr tt) s.heap.size = A at hD ⊢
  have hA : ∀ q : Nat, s.heap.size ≤ q → A q := fun q h => by rw [← hAe]; exact Or.inr h
  have hS : va_S A s.heap s.heap [] := va_S.rf
  have hP : va_P (dC, dI) vwCl [(g0, .inr (2, [.int cd, .ref gm, .long tb, .int (b2i su), .int (b2i mx), .ref gc, .ref gn, .long fr, .long tt])), (gm, .inl (cL, 8192, .inr (.inl w))), (gc, .inl (cI, 8, .inl cf)), (gn, .inl (cL, 8, .inr (.inl nu)))] s.heap := hP
  have hD : va_D A [(g0, .inr (2, [.int cd, .ref gm, .long tb, .int (b2i su), .int (b2i mx), .ref gc, .ref gn, .long fr, .long tt])), (gm, .inl (cL, 8192, .inr (.inl w))), (gc, .inl (cI, 8, .inl cf)), (gn, .inl (cL, 8, .inr (.inl nu)))] := hD
  have hl := lv_entry ([.ref g0, .int (b2i s1), .int (b2i s2)]) (n := 3) (Nat.le_of_ble_eq_true rfl)
  rw [lg_entry_eq]
  generalize (lg_sl ([.ref g0, .int (b2i s1), .int (b2i s2)]) ++ List.replicate (3 - (lg_sl ([.ref g0, .int (b2i s1), .int (b2i s2)])).length) Slot.unset).toArray = ls at hl ⊢
  have hl : lv_has ls 3 [(0, .ref g0), (1, .int (b2i s1)), (2, .int (b2i s2))] := hl
  refine lv_aload_n hx hb dX2_rights_0 rfl (lv_at hl 0 rfl) ?_
  refine lv_iconst (v := 0) hx hb dX2_rights_1 (by decide) ?_
  refine va_put (D := (dC, dI)) (ci := 2) (v := .int 0) (ty := .int) (C := RX2) (T := TX2) (N := 9) hx hb hts iwX2 tyX2 tyX2_ok nmX2 hown hK hP hD hS 0 rfl rfl 0 (by decide) (hts (.fieldLink RX2 20 RX2 "code" "I") (wa 355 (by decide +kernel) rfl)) (fun _ h9 => h9) rfl (by decide +kernel) rfl rfl (Nat.le_of_ble_eq_true rfl) dX2_rights_2 (fun H locs hP hD hS => ?_)
  have hP : va_P (dC, dI) vwCl [(g0, .inr (2, [.int 0, .ref gm, .long tb, .int (b2i su), .int (b2i mx), .ref gc, .ref gn, .long fr, .long tt])), (gm, .inl (cL, 8192, .inr (.inl w))), (gc, .inl (cI, 8, .inl cf)), (gn, .inl (cL, 8, .inr (.inl nu)))] H := hP
  have hD : va_D A [(g0, .inr (2, [.int 0, .ref gm, .long tb, .int (b2i su), .int (b2i mx), .ref gc, .ref gn, .long fr, .long tt])), (gm, .inl (cL, 8192, .inr (.inl w))), (gc, .inl (cI, 8, .inl cf)), (gn, .inl (cL, 8, .inr (.inl nu)))] := hD
  refine lv_aload_n hx hb dX2_rights_5 rfl (lv_at hl 0 rfl) ?_
  refine lv_iload_n hx hb dX2_rights_6 rfl (lv_at hl 1 rfl) ?_
  refine va_put (D := (dC, dI)) (ci := 2) (v := .int (b2i s1)) (ty := .boolean) (C := RX2) (T := TX2) (N := 9) hx hb hts iwX2 tyX2 tyX2_ok nmX2 hown hK hP hD hS 0 rfl rfl 3 (by decide) (hts (.fieldLink RX2 48 RX2 "sum" "Z") (wa 358 (by decide +kernel) rfl)) (fun _ h9 => h9) rfl (by decide +kernel) (nar_b2i _) (fit_b2i _) (Nat.le_of_ble_eq_true rfl) dX2_rights_7 (fun H locs hP hD hS => ?_)
  have hP : va_P (dC, dI) vwCl [(g0, .inr (2, [.int 0, .ref gm, .long tb, .int (b2i s1), .int (b2i mx), .ref gc, .ref gn, .long fr, .long tt])), (gm, .inl (cL, 8192, .inr (.inl w))), (gc, .inl (cI, 8, .inl cf)), (gn, .inl (cL, 8, .inr (.inl nu)))] H := hP
  have hD : va_D A [(g0, .inr (2, [.int 0, .ref gm, .long tb, .int (b2i s1), .int (b2i mx), .ref gc, .ref gn, .long fr, .long tt])), (gm, .inl (cL, 8192, .inr (.inl w))), (gc, .inl (cI, 8, .inl cf)), (gn, .inl (cL, 8, .inr (.inl nu)))] := hD
  refine lv_aload_n hx hb dX2_rights_10 rfl (lv_at hl 0 rfl) ?_
  refine lv_iload_n hx hb dX2_rights_11 rfl (lv_at hl 2 rfl) ?_
  refine va_put (D := (dC, dI)) (ci := 2) (v := .int (b2i s2)) (ty := .boolean) (C := RX2) (T := TX2) (N := 9) hx hb hts iwX2 tyX2 tyX2_ok nmX2 hown hK hP hD hS 0 rfl rfl 4 (by decide) (hts (.fieldLink RX2 52 RX2 "mxr" "Z") (wa 359 (by decide +kernel) rfl)) (fun _ h9 => h9) rfl (by decide +kernel) (nar_b2i _) (fit_b2i _) (Nat.le_of_ble_eq_true rfl) dX2_rights_12 (fun H locs hP hD hS => ?_)
  have hP : va_P (dC, dI) vwCl [(g0, .inr (2, [.int 0, .ref gm, .long tb, .int (b2i s1), .int (b2i s2), .ref gc, .ref gn, .long fr, .long tt])), (gm, .inl (cL, 8192, .inr (.inl w))), (gc, .inl (cI, 8, .inl cf)), (gn, .inl (cL, 8, .inr (.inl nu)))] H := hP
  have hD : va_D A [(g0, .inr (2, [.int 0, .ref gm, .long tb, .int (b2i s1), .int (b2i s2), .ref gc, .ref gn, .long fr, .long tt])), (gm, .inl (cL, 8192, .inr (.inl w))), (gc, .inl (cI, 8, .inl cf)), (gn, .inl (cL, 8, .inr (.inl nu)))] := hD
  have hP9 : va_P (dC, dI) vwCl (wMD cL cI g0 gm gc gn 0 w tb s1 s2 cf nu fr tt) H := hP
  have hD9 : va_D A (wMD cL cI g0 gm gc gn 0 w tb s1 s2 cf nu fr tt) := hD
  exact W.vret hx hb hr (fun t ht hW => ⟨⟨(), rfl, trivial, (by rw [ht]; exact hP9), va_K.moved hW.alike hK, hD9⟩, hS.F ht⟩) hS.2.2 dX2_rights_15
set_option maxHeartbeats 4000000 in
set_option maxRecDepth 100000 in
theorem mtX2_word (l : Launch) (dC : Nat → ClassId) (dI : Nat → Nat → Nat) (cL : ClassId) (cI : ClassId) (g0 : Nat) (gm : Nat) (gc : Nat) (gn : Nat) (cd : Int32) (w : Nat → Int64) (tb : Int64) (su : Bool) (mx : Bool) (cf : Nat → Int32) (nu : Nat → Int64) (fr : Int64) (tt : Int64) (hz : Nat) (ad : Int64) (hw : ¬ k_wordIndex ad = -1) : Met l yX2_word wsX2_word ({ frames := 1, cells := 0, slots := 0, locals := 21 }) (va_Pc [.ref g0, .long ad] (fun U => U.heap.size = hz ∧ va_P (dC, dI) vwCl (wMD cL cI g0 gm gc gn cd w tb su mx cf nu fr tt) U.heap ∧ va_K (dC, dI) vwCl [(cL, .long), (cI, .int)] U ∧ va_D (fun _ => True) (wMD cL cI g0 gm gc gn cd w tb su mx cf nu fr tt))) (va_Ql (fun r (_ : Unit) => r = (k_at w ad)) (fun _ t => va_P (dC, dI) vwCl (wMD cL cI g0 gm gc gn 0 w tb su mx cf nu fr tt) t.heap ∧ va_K (dC, dI) vwCl [(cL, .long), (cI, .int)] t ∧ va_D (va_A (wMD cL cI g0 gm gc gn cd w tb su mx cf nu fr tt) hz) (wMD cL cI g0 gm gc gn 0 w tb su mx cf nu fr tt)) (va_A (wMD cL cI g0 gm gc gn cd w tb su mx cf nu fr tt) hz)) 0 0 (va_A (wMD cL cI g0 gm gc gn cd w tb su mx cf nu fr tt) hz) := by
  refine Met.ofW (cc := cX2_word) (maxL := 3) (ret := (some .long)) (by decide) rfl ?_
  intro p e s m args below meth c s₁ B hml hv
  obtain ⟨rfl, hsz, hP, hK, hD0⟩ := hv
  have hx := B.exec
  have hb := B.bytes
  have hr := B.returns
  have hts := atoms_spec (ws := wsX2_word) B.pre
  have hown : s.vm.findClass RX2 = some m.cls := findClass_of_methodNamed B.named
  have hlocks := B.notSynchronized
  subst hsz
  have hD := hD0.self (sz := s.heap.size)
  generalize hAe : va_A (wMD cL cI g0 gm gc gn cd w tb su mx cf nu fr tt) s.heap.size = A at hD ⊢
  have hA : ∀ q : Nat, s.heap.size ≤ q → A q := fun q h => by rw [← hAe]; exact Or.inr h
  have hS : va_S A s.heap s.heap [] := va_S.rf
  have hP : va_P (dC, dI) vwCl [(g0, .inr (2, [.int cd, .ref gm, .long tb, .int (b2i su), .int (b2i mx), .ref gc, .ref gn, .long fr, .long tt])), (gm, .inl (cL, 8192, .inr (.inl w))), (gc, .inl (cI, 8, .inl cf)), (gn, .inl (cL, 8, .inr (.inl nu)))] s.heap := hP
  have hD : va_D A [(g0, .inr (2, [.int cd, .ref gm, .long tb, .int (b2i su), .int (b2i mx), .ref gc, .ref gn, .long fr, .long tt])), (gm, .inl (cL, 8192, .inr (.inl w))), (gc, .inl (cI, 8, .inl cf)), (gn, .inl (cL, 8, .inr (.inl nu)))] := hD
  have hl := lv_entry ([.ref g0, .long ad]) (n := 3) (Nat.le_of_ble_eq_true rfl)
  rw [lg_entry_eq]
  generalize (lg_sl ([.ref g0, .long ad]) ++ List.replicate (3 - (lg_sl ([.ref g0, .long ad])).length) Slot.unset).toArray = ls at hl ⊢
  have hl : lv_has ls 3 [(0, .ref g0), (1, .long ad)] := hl
  refine lv_aload_n hx hb dX2_word_0 rfl (lv_at hl 0 rfl) ?_
  refine lv_lload_n hx hb dX2_word_1 rfl (lv_at hl 1 rfl) ?_
  refine vp_callSi (W.runS (As := [.long ad]) (rest := [.ref g0]) ⟨hx, hb, hml, hown, hts⟩ (mtX2_isWord l ad) (va_cwS 1 hts (gAll (mc1 (wa 391 (by decide +kernel) rfl) (mc1 (wa 392 (by decide +kernel) rfl) (mc1 (wa 17 (by decide +kernel) rfl) mc0))) (wa 393 (by decide +kernel) rfl) (by decide +kernel)) rfl rfl rfl (by decide +kernel) ⟨Nat.le_of_ble_eq_true rfl, Nat.le_of_ble_eq_true rfl⟩) preEq rfl rfl hl.1 rfl (lv_room (Nat.le_of_ble_eq_true rfl)) dX2_word_2 ⟨Nat.le_of_ble_eq_true rfl, Nat.le_of_ble_eq_true rfl⟩) (fun r_1 er_1 => ?_)
  have er_1 : r_1 = (b2i (m_isWord ad)) := er_1
  subst er_1
  refine lv_if_eq (tgt := 12) hx hb dX2_word_5 (by decide) (fun c_2 => ?_) (fun c_2 => ?_)
  · rw [b2i_z] at c_2
    exact absurd (m_word_f c_2) hw
  · rw [b2i_z] at c_2
    rw [Bool.not_eq_false] at c_2
    refine lv_iconst (v := 0) hx hb dX2_word_8 (by decide) ?_
    refine lv_goto (tgt := 13) hx hb dX2_word_9 (by decide) ?_
    refine va_put (D := (dC, dI)) (ci := 2) (v := .int 0) (ty := .int) (C := RX2) (T := TX2) (N := 9) hx hb hts iwX2 tyX2 tyX2_ok nmX2 hown hK hP hD hS 0 rfl rfl 0 (by decide) (hts (.fieldLink RX2 20 RX2 "code" "I") (wa 355 (by decide +kernel) rfl)) (fun _ h9 => h9) rfl (by decide +kernel) rfl rfl (Nat.le_of_ble_eq_true rfl) dX2_word_13 (fun H locs hP hD hS => ?_)
    have hP : va_P (dC, dI) vwCl [(g0, .inr (2, [.int 0, .ref gm, .long tb, .int (b2i su), .int (b2i mx), .ref gc, .ref gn, .long fr, .long tt])), (gm, .inl (cL, 8192, .inr (.inl w))), (gc, .inl (cI, 8, .inl cf)), (gn, .inl (cL, 8, .inr (.inl nu)))] H := hP
    have hD : va_D A [(g0, .inr (2, [.int 0, .ref gm, .long tb, .int (b2i su), .int (b2i mx), .ref gc, .ref gn, .long fr, .long tt])), (gm, .inl (cL, 8192, .inr (.inl w))), (gc, .inl (cI, 8, .inl cf)), (gn, .inl (cL, 8, .inr (.inl nu)))] := hD
    refine lv_aload_n hx hb dX2_word_16 rfl (lv_at hl 0 rfl) ?_
    refine va_get (D := (dC, dI)) (ci := 2) (v := .int 0) (C := RX2) (T := TX2) (N := 9) hx hb hts iwX2 hown hK hP 0 rfl rfl 0 (by decide) (hts (.fieldLink RX2 20 RX2 "code" "I") (wa 355 (by decide +kernel) rfl)) (fun _ h9 => h9) rfl dX2_word_17 ?_
    refine lv_if_le (tgt := 27) hx hb dX2_word_20 (by decide) (fun c_3 => ?_) (fun c_3 => ?_)
    · refine lv_aload_n hx hb dX2_word_27 rfl (lv_at hl 0 rfl) ?_
      refine va_get (D := (dC, dI)) (ci := 2) (v := .ref gm) (C := RX2) (T := TX2) (N := 9) hx hb hts iwX2 hown hK hP 0 rfl rfl 1 (by decide) (hts (.fieldLink RX2 7 RX2 "memory" "[J") (wa 356 (by decide +kernel) rfl)) (fun _ h9 => h9) rfl dX2_word_28 ?_
      refine lv_lload_n hx hb dX2_word_31 rfl (lv_at hl 1 rfl) ?_
      refine vp_callSi (W.runS (As := [.long ad]) (rest := [.ref gm]) ⟨hx, hb, hml, hown, hts⟩ (mtX2_cell l ad) (va_cwS 1 hts (gAll (mc1 (wa 397 (by decide +kernel) rfl) (mc1 (wa 398 (by decide +kernel) rfl) (mc1 (wa 17 (by decide +kernel) rfl) mc0))) (wa 399 (by decide +kernel) rfl) (by decide +kernel)) rfl rfl rfl (by decide +kernel) ⟨Nat.le_of_ble_eq_true rfl, Nat.le_of_ble_eq_true rfl⟩) preEq rfl rfl hl.1 rfl (lv_room (Nat.le_of_ble_eq_true rfl)) dX2_word_32 ⟨Nat.le_of_ble_eq_true rfl, Nat.le_of_ble_eq_true rfl⟩) (fun r_4 er_4 => ?_)
      have er_4 : r_4 = (m_cell ad) := er_4
      subst er_4
      rw [m_cell_eq hw]
      refine va_lald hx hb hK hP 1 0 rfl rfl (wi_in hw) dX2_word_35 ?_
      have hP9 : va_P (dC, dI) vwCl (wMD cL cI g0 gm gc gn 0 w tb su mx cf nu fr tt) H := hP
      have hD9 : va_D A (wMD cL cI g0 gm gc gn 0 w tb su mx cf nu fr tt) := hD
      exact W.lret (v := (k_at w ad)) hx hb hr (fun t ht hW => ⟨⟨(k_at w ad), (), rfl, (by first | rfl | (simp only [c_2, b2i, decide_true, decide_false, Bool.not_true, Bool.not_false, Bool.and_true, Bool.and_false, Bool.true_and, Bool.false_and, Bool.or_true, Bool.or_false, Bool.true_or, Bool.false_or, reduceIte, or_true, true_or, or_false, false_or, and_true, true_and, and_false, false_and, not_true_eq_false, not_false_eq_true, Bool.false_eq_true, eq_self]; done) | (simp [c_2]; done)), (by rw [ht]; exact hP9), va_K.moved hW.alike hK, hD9⟩, hS.F ht⟩) hS.2.2 dX2_word_36
    · first | exact absurd c_3 (by decide) | exact absurd (by decide) c_3
set_option maxHeartbeats 4000000 in
set_option maxRecDepth 100000 in
theorem mtX2_word_no (l : Launch) (dC : Nat → ClassId) (dI : Nat → Nat → Nat) (cL : ClassId) (cI : ClassId) (g0 : Nat) (gm : Nat) (gc : Nat) (gn : Nat) (cd : Int32) (w : Nat → Int64) (tb : Int64) (su : Bool) (mx : Bool) (cf : Nat → Int32) (nu : Nat → Int64) (fr : Int64) (tt : Int64) (hz : Nat) (ad : Int64) (hw : k_wordIndex ad = -1) : Met l yX2_word wsX2_word ({ frames := 1, cells := 0, slots := 0, locals := 21 }) (va_Pc [.ref g0, .long ad] (fun U => U.heap.size = hz ∧ va_P (dC, dI) vwCl (wMD cL cI g0 gm gc gn cd w tb su mx cf nu fr tt) U.heap ∧ va_K (dC, dI) vwCl [(cL, .long), (cI, .int)] U ∧ va_D (fun _ => True) (wMD cL cI g0 gm gc gn cd w tb su mx cf nu fr tt))) (va_Ql (fun r (_ : Unit) => r = 0) (fun _ t => va_P (dC, dI) vwCl (wMD cL cI g0 gm gc gn 1 w tb su mx cf nu fr tt) t.heap ∧ va_K (dC, dI) vwCl [(cL, .long), (cI, .int)] t ∧ va_D (va_A (wMD cL cI g0 gm gc gn cd w tb su mx cf nu fr tt) hz) (wMD cL cI g0 gm gc gn 1 w tb su mx cf nu fr tt)) (va_A (wMD cL cI g0 gm gc gn cd w tb su mx cf nu fr tt) hz)) 0 0 (va_A (wMD cL cI g0 gm gc gn cd w tb su mx cf nu fr tt) hz) := by
  refine Met.ofW (cc := cX2_word) (maxL := 3) (ret := (some .long)) (by decide) rfl ?_
  intro p e s m args below meth c s₁ B hml hv
  obtain ⟨rfl, hsz, hP, hK, hD0⟩ := hv
  have hx := B.exec
  have hb := B.bytes
  have hr := B.returns
  have hts := atoms_spec (ws := wsX2_word) B.pre
  have hown : s.vm.findClass RX2 = some m.cls := findClass_of_methodNamed B.named
  have hlocks := B.notSynchronized
  subst hsz
  have hD := hD0.self (sz := s.heap.size)
  generalize hAe : va_A (wMD cL cI g0 gm gc gn cd w tb su mx cf nu fr tt) s.heap.size = A at hD ⊢
  have hA : ∀ q : Nat, s.heap.size ≤ q → A q := fun q h => by rw [← hAe]; exact Or.inr h
  have hS : va_S A s.heap s.heap [] := va_S.rf
  have hP : va_P (dC, dI) vwCl [(g0, .inr (2, [.int cd, .ref gm, .long tb, .int (b2i su), .int (b2i mx), .ref gc, .ref gn, .long fr, .long tt])), (gm, .inl (cL, 8192, .inr (.inl w))), (gc, .inl (cI, 8, .inl cf)), (gn, .inl (cL, 8, .inr (.inl nu)))] s.heap := hP
  have hD : va_D A [(g0, .inr (2, [.int cd, .ref gm, .long tb, .int (b2i su), .int (b2i mx), .ref gc, .ref gn, .long fr, .long tt])), (gm, .inl (cL, 8192, .inr (.inl w))), (gc, .inl (cI, 8, .inl cf)), (gn, .inl (cL, 8, .inr (.inl nu)))] := hD
  have hl := lv_entry ([.ref g0, .long ad]) (n := 3) (Nat.le_of_ble_eq_true rfl)
  rw [lg_entry_eq]
  generalize (lg_sl ([.ref g0, .long ad]) ++ List.replicate (3 - (lg_sl ([.ref g0, .long ad])).length) Slot.unset).toArray = ls at hl ⊢
  have hl : lv_has ls 3 [(0, .ref g0), (1, .long ad)] := hl
  refine lv_aload_n hx hb dX2_word_0 rfl (lv_at hl 0 rfl) ?_
  refine lv_lload_n hx hb dX2_word_1 rfl (lv_at hl 1 rfl) ?_
  refine vp_callSi (W.runS (As := [.long ad]) (rest := [.ref g0]) ⟨hx, hb, hml, hown, hts⟩ (mtX2_isWord l ad) (va_cwS 1 hts (gAll (mc1 (wa 391 (by decide +kernel) rfl) (mc1 (wa 392 (by decide +kernel) rfl) (mc1 (wa 17 (by decide +kernel) rfl) mc0))) (wa 393 (by decide +kernel) rfl) (by decide +kernel)) rfl rfl rfl (by decide +kernel) ⟨Nat.le_of_ble_eq_true rfl, Nat.le_of_ble_eq_true rfl⟩) preEq rfl rfl hl.1 rfl (lv_room (Nat.le_of_ble_eq_true rfl)) dX2_word_2 ⟨Nat.le_of_ble_eq_true rfl, Nat.le_of_ble_eq_true rfl⟩) (fun r_1 er_1 => ?_)
  have er_1 : r_1 = (b2i (m_isWord ad)) := er_1
  subst er_1
  refine lv_if_eq (tgt := 12) hx hb dX2_word_5 (by decide) (fun c_2 => ?_) (fun c_2 => ?_)
  · rw [b2i_z] at c_2
    refine lv_iconst (v := 1) hx hb dX2_word_12 (by decide) ?_
    refine va_put (D := (dC, dI)) (ci := 2) (v := .int 1) (ty := .int) (C := RX2) (T := TX2) (N := 9) hx hb hts iwX2 tyX2 tyX2_ok nmX2 hown hK hP hD hS 0 rfl rfl 0 (by decide) (hts (.fieldLink RX2 20 RX2 "code" "I") (wa 355 (by decide +kernel) rfl)) (fun _ h9 => h9) rfl (by decide +kernel) rfl rfl (Nat.le_of_ble_eq_true rfl) dX2_word_13 (fun H locs hP hD hS => ?_)
    have hP : va_P (dC, dI) vwCl [(g0, .inr (2, [.int 1, .ref gm, .long tb, .int (b2i su), .int (b2i mx), .ref gc, .ref gn, .long fr, .long tt])), (gm, .inl (cL, 8192, .inr (.inl w))), (gc, .inl (cI, 8, .inl cf)), (gn, .inl (cL, 8, .inr (.inl nu)))] H := hP
    have hD : va_D A [(g0, .inr (2, [.int 1, .ref gm, .long tb, .int (b2i su), .int (b2i mx), .ref gc, .ref gn, .long fr, .long tt])), (gm, .inl (cL, 8192, .inr (.inl w))), (gc, .inl (cI, 8, .inl cf)), (gn, .inl (cL, 8, .inr (.inl nu)))] := hD
    refine lv_aload_n hx hb dX2_word_16 rfl (lv_at hl 0 rfl) ?_
    refine va_get (D := (dC, dI)) (ci := 2) (v := .int 1) (C := RX2) (T := TX2) (N := 9) hx hb hts iwX2 hown hK hP 0 rfl rfl 0 (by decide) (hts (.fieldLink RX2 20 RX2 "code" "I") (wa 355 (by decide +kernel) rfl)) (fun _ h9 => h9) rfl dX2_word_17 ?_
    refine lv_if_le (tgt := 27) hx hb dX2_word_20 (by decide) (fun c_3 => ?_) (fun c_3 => ?_)
    · first | exact absurd c_3 (by decide) | exact absurd (by decide) c_3
    · refine lv_lconst (v := 0) hx hb dX2_word_23 (by decide) ?_
      refine lv_goto (tgt := 36) hx hb dX2_word_24 (by decide) ?_
      have hP9 : va_P (dC, dI) vwCl (wMD cL cI g0 gm gc gn 1 w tb su mx cf nu fr tt) H := hP
      have hD9 : va_D A (wMD cL cI g0 gm gc gn 1 w tb su mx cf nu fr tt) := hD
      exact W.lret (v := 0) hx hb hr (fun t ht hW => ⟨⟨0, (), rfl, (by first | rfl | (simp only [c_2, b2i, decide_true, decide_false, Bool.not_true, Bool.not_false, Bool.and_true, Bool.and_false, Bool.true_and, Bool.false_and, Bool.or_true, Bool.or_false, Bool.true_or, Bool.false_or, reduceIte, or_true, true_or, or_false, false_or, and_true, true_and, and_false, false_and, not_true_eq_false, not_false_eq_true, Bool.false_eq_true, eq_self]; done) | (simp [c_2]; done)), (by rw [ht]; exact hP9), va_K.moved hW.alike hK, hD9⟩, hS.F ht⟩) hS.2.2 dX2_word_36
  · rw [b2i_z] at c_2
    rw [Bool.not_eq_false] at c_2
    exact absurd hw (m_word_t c_2)
set_option maxHeartbeats 4000000 in
set_option maxRecDepth 100000 in
theorem mtX2_put (l : Launch) (dC : Nat → ClassId) (dI : Nat → Nat → Nat) (cL : ClassId) (cI : ClassId) (g0 : Nat) (gm : Nat) (gc : Nat) (gn : Nat) (cd : Int32) (w : Nat → Int64) (tb : Int64) (su : Bool) (mx : Bool) (cf : Nat → Int32) (nu : Nat → Int64) (fr : Int64) (tt : Int64) (hz : Nat) (ad : Int64) (v : Int64) (hw : ¬ k_wordIndex ad = -1) : Met l yX2_put wsX2_put ({ frames := 1, cells := 0, slots := 0, locals := 21 }) (va_Pc [.ref g0, .long ad, .long v] (fun U => U.heap.size = hz ∧ va_P (dC, dI) vwCl (wMD cL cI g0 gm gc gn cd w tb su mx cf nu fr tt) U.heap ∧ va_K (dC, dI) vwCl [(cL, .long), (cI, .int)] U ∧ va_D (fun _ => True) (wMD cL cI g0 gm gc gn cd w tb su mx cf nu fr tt))) (va_Qv (fun _ : Unit => True) (fun _ t => va_P (dC, dI) vwCl (wMD cL cI g0 gm gc gn 0 (vp_updL w (Int32.toNatClampNeg (k_wordIndex ad)) v) tb su mx cf nu fr tt) t.heap ∧ va_K (dC, dI) vwCl [(cL, .long), (cI, .int)] t ∧ va_D (va_A (wMD cL cI g0 gm gc gn cd w tb su mx cf nu fr tt) hz) (wMD cL cI g0 gm gc gn 0 (vp_updL w (Int32.toNatClampNeg (k_wordIndex ad)) v) tb su mx cf nu fr tt)) (va_A (wMD cL cI g0 gm gc gn cd w tb su mx cf nu fr tt) hz)) 0 0 (va_A (wMD cL cI g0 gm gc gn cd w tb su mx cf nu fr tt) hz) := by
  refine Met.ofW (cc := cX2_put) (maxL := 5) (ret := none) (by decide) rfl ?_
  intro p e s m args below meth c s₁ B hml hv
  obtain ⟨rfl, hsz, hP, hK, hD0⟩ := hv
  have hx := B.exec
  have hb := B.bytes
  have hr := B.returns
  have hts := atoms_spec (ws := wsX2_put) B.pre
  have hown : s.vm.findClass RX2 = some m.cls := findClass_of_methodNamed B.named
  have hlocks := B.notSynchronized
  subst hsz
  have hD := hD0.self (sz := s.heap.size)
  generalize hAe : va_A (wMD cL cI g0 gm gc gn cd w tb su mx cf nu fr tt) s.heap.size = A at hD ⊢
  have hA : ∀ q : Nat, s.heap.size ≤ q → A q := fun q h => by rw [← hAe]; exact Or.inr h
  have hS : va_S A s.heap s.heap [] := va_S.rf
  have hP : va_P (dC, dI) vwCl [(g0, .inr (2, [.int cd, .ref gm, .long tb, .int (b2i su), .int (b2i mx), .ref gc, .ref gn, .long fr, .long tt])), (gm, .inl (cL, 8192, .inr (.inl w))), (gc, .inl (cI, 8, .inl cf)), (gn, .inl (cL, 8, .inr (.inl nu)))] s.heap := hP
  have hD : va_D A [(g0, .inr (2, [.int cd, .ref gm, .long tb, .int (b2i su), .int (b2i mx), .ref gc, .ref gn, .long fr, .long tt])), (gm, .inl (cL, 8192, .inr (.inl w))), (gc, .inl (cI, 8, .inl cf)), (gn, .inl (cL, 8, .inr (.inl nu)))] := hD
  have hl := lv_entry ([.ref g0, .long ad, .long v]) (n := 5) (Nat.le_of_ble_eq_true rfl)
  rw [lg_entry_eq]
  generalize (lg_sl ([.ref g0, .long ad, .long v]) ++ List.replicate (5 - (lg_sl ([.ref g0, .long ad, .long v])).length) Slot.unset).toArray = ls at hl ⊢
  have hl : lv_has ls 5 [(0, .ref g0), (1, .long ad), (3, .long v)] := hl
  refine lv_aload_n hx hb dX2_put_0 rfl (lv_at hl 0 rfl) ?_
  refine lv_lload_n hx hb dX2_put_1 rfl (lv_at hl 1 rfl) ?_
  refine vp_callSi (W.runS (As := [.long ad]) (rest := [.ref g0]) ⟨hx, hb, hml, hown, hts⟩ (mtX2_isWord l ad) (va_cwS 1 hts (gAll (mc1 (wa 391 (by decide +kernel) rfl) (mc1 (wa 392 (by decide +kernel) rfl) (mc1 (wa 17 (by decide +kernel) rfl) mc0))) (wa 393 (by decide +kernel) rfl) (by decide +kernel)) rfl rfl rfl (by decide +kernel) ⟨Nat.le_of_ble_eq_true rfl, Nat.le_of_ble_eq_true rfl⟩) preEq rfl rfl hl.1 rfl (lv_room (Nat.le_of_ble_eq_true rfl)) dX2_put_2 ⟨Nat.le_of_ble_eq_true rfl, Nat.le_of_ble_eq_true rfl⟩) (fun r_1 er_1 => ?_)
  have er_1 : r_1 = (b2i (m_isWord ad)) := er_1
  subst er_1
  refine lv_if_eq (tgt := 12) hx hb dX2_put_5 (by decide) (fun c_2 => ?_) (fun c_2 => ?_)
  · rw [b2i_z] at c_2
    exact absurd (m_word_f c_2) hw
  · rw [b2i_z] at c_2
    rw [Bool.not_eq_false] at c_2
    refine lv_iconst (v := 0) hx hb dX2_put_8 (by decide) ?_
    refine lv_goto (tgt := 13) hx hb dX2_put_9 (by decide) ?_
    refine va_put (D := (dC, dI)) (ci := 2) (v := .int 0) (ty := .int) (C := RX2) (T := TX2) (N := 9) hx hb hts iwX2 tyX2 tyX2_ok nmX2 hown hK hP hD hS 0 rfl rfl 0 (by decide) (hts (.fieldLink RX2 20 RX2 "code" "I") (wa 355 (by decide +kernel) rfl)) (fun _ h9 => h9) rfl (by decide +kernel) rfl rfl (Nat.le_of_ble_eq_true rfl) dX2_put_13 (fun H locs hP hD hS => ?_)
    have hP : va_P (dC, dI) vwCl [(g0, .inr (2, [.int 0, .ref gm, .long tb, .int (b2i su), .int (b2i mx), .ref gc, .ref gn, .long fr, .long tt])), (gm, .inl (cL, 8192, .inr (.inl w))), (gc, .inl (cI, 8, .inl cf)), (gn, .inl (cL, 8, .inr (.inl nu)))] H := hP
    have hD : va_D A [(g0, .inr (2, [.int 0, .ref gm, .long tb, .int (b2i su), .int (b2i mx), .ref gc, .ref gn, .long fr, .long tt])), (gm, .inl (cL, 8192, .inr (.inl w))), (gc, .inl (cI, 8, .inl cf)), (gn, .inl (cL, 8, .inr (.inl nu)))] := hD
    refine lv_aload_n hx hb dX2_put_16 rfl (lv_at hl 0 rfl) ?_
    refine va_get (D := (dC, dI)) (ci := 2) (v := .int 0) (C := RX2) (T := TX2) (N := 9) hx hb hts iwX2 hown hK hP 0 rfl rfl 0 (by decide) (hts (.fieldLink RX2 20 RX2 "code" "I") (wa 355 (by decide +kernel) rfl)) (fun _ h9 => h9) rfl dX2_put_17 ?_
    refine lv_if_ne (tgt := 33) hx hb dX2_put_20 (by decide) (fun c_3 => ?_) (fun c_3 => ?_)
    · first | exact absurd c_3 (by decide) | exact absurd (by decide) c_3
    · refine lv_aload_n hx hb dX2_put_23 rfl (lv_at hl 0 rfl) ?_
      refine va_get (D := (dC, dI)) (ci := 2) (v := .ref gm) (C := RX2) (T := TX2) (N := 9) hx hb hts iwX2 hown hK hP 0 rfl rfl 1 (by decide) (hts (.fieldLink RX2 7 RX2 "memory" "[J") (wa 356 (by decide +kernel) rfl)) (fun _ h9 => h9) rfl dX2_put_24 ?_
      refine lv_lload_n hx hb dX2_put_27 rfl (lv_at hl 1 rfl) ?_
      refine vp_callSi (W.runS (As := [.long ad]) (rest := [.ref gm]) ⟨hx, hb, hml, hown, hts⟩ (mtX2_cell l ad) (va_cwS 1 hts (gAll (mc1 (wa 397 (by decide +kernel) rfl) (mc1 (wa 398 (by decide +kernel) rfl) (mc1 (wa 17 (by decide +kernel) rfl) mc0))) (wa 399 (by decide +kernel) rfl) (by decide +kernel)) rfl rfl rfl (by decide +kernel) ⟨Nat.le_of_ble_eq_true rfl, Nat.le_of_ble_eq_true rfl⟩) preEq rfl rfl hl.1 rfl (lv_room (Nat.le_of_ble_eq_true rfl)) dX2_put_28 ⟨Nat.le_of_ble_eq_true rfl, Nat.le_of_ble_eq_true rfl⟩) (fun r_4 er_4 => ?_)
      have er_4 : r_4 = (m_cell ad) := er_4
      subst er_4
      rw [m_cell_eq hw]
      refine lv_lload_n hx hb dX2_put_31 rfl (lv_at hl 2 rfl) ?_
      refine va_last hx hb hK hP hD hS 1 0 rfl rfl (wi_in hw) dX2_put_32 (fun H locs hP hD hS => ?_)
      have hP : va_P (dC, dI) vwCl [(g0, .inr (2, [.int 0, .ref gm, .long tb, .int (b2i su), .int (b2i mx), .ref gc, .ref gn, .long fr, .long tt])), (gm, .inl (cL, 8192, .inr (.inl (vp_updL w (Int32.toNatClampNeg (k_wordIndex ad)) v)))), (gc, .inl (cI, 8, .inl cf)), (gn, .inl (cL, 8, .inr (.inl nu)))] H := hP
      have hD : va_D A [(g0, .inr (2, [.int 0, .ref gm, .long tb, .int (b2i su), .int (b2i mx), .ref gc, .ref gn, .long fr, .long tt])), (gm, .inl (cL, 8192, .inr (.inl (vp_updL w (Int32.toNatClampNeg (k_wordIndex ad)) v)))), (gc, .inl (cI, 8, .inl cf)), (gn, .inl (cL, 8, .inr (.inl nu)))] := hD
      have hP9 : va_P (dC, dI) vwCl (wMD cL cI g0 gm gc gn 0 (vp_updL w (Int32.toNatClampNeg (k_wordIndex ad)) v) tb su mx cf nu fr tt) H := hP
      have hD9 : va_D A (wMD cL cI g0 gm gc gn 0 (vp_updL w (Int32.toNatClampNeg (k_wordIndex ad)) v) tb su mx cf nu fr tt) := hD
      exact W.vret hx hb hr (fun t ht hW => ⟨⟨(), rfl, trivial, (by rw [ht]; exact hP9), va_K.moved hW.alike hK, hD9⟩, hS.F ht⟩) hS.2.2 dX2_put_33
set_option maxHeartbeats 4000000 in
set_option maxRecDepth 100000 in
theorem mtX2_put_no (l : Launch) (dC : Nat → ClassId) (dI : Nat → Nat → Nat) (cL : ClassId) (cI : ClassId) (g0 : Nat) (gm : Nat) (gc : Nat) (gn : Nat) (cd : Int32) (w : Nat → Int64) (tb : Int64) (su : Bool) (mx : Bool) (cf : Nat → Int32) (nu : Nat → Int64) (fr : Int64) (tt : Int64) (hz : Nat) (ad : Int64) (v : Int64) (hw : k_wordIndex ad = -1) : Met l yX2_put wsX2_put ({ frames := 1, cells := 0, slots := 0, locals := 21 }) (va_Pc [.ref g0, .long ad, .long v] (fun U => U.heap.size = hz ∧ va_P (dC, dI) vwCl (wMD cL cI g0 gm gc gn cd w tb su mx cf nu fr tt) U.heap ∧ va_K (dC, dI) vwCl [(cL, .long), (cI, .int)] U ∧ va_D (fun _ => True) (wMD cL cI g0 gm gc gn cd w tb su mx cf nu fr tt))) (va_Qv (fun _ : Unit => True) (fun _ t => va_P (dC, dI) vwCl (wMD cL cI g0 gm gc gn 1 w tb su mx cf nu fr tt) t.heap ∧ va_K (dC, dI) vwCl [(cL, .long), (cI, .int)] t ∧ va_D (va_A (wMD cL cI g0 gm gc gn cd w tb su mx cf nu fr tt) hz) (wMD cL cI g0 gm gc gn 1 w tb su mx cf nu fr tt)) (va_A (wMD cL cI g0 gm gc gn cd w tb su mx cf nu fr tt) hz)) 0 0 (va_A (wMD cL cI g0 gm gc gn cd w tb su mx cf nu fr tt) hz) := by
  refine Met.ofW (cc := cX2_put) (maxL := 5) (ret := none) (by decide) rfl ?_
  intro p e s m args below meth c s₁ B hml hv
  obtain ⟨rfl, hsz, hP, hK, hD0⟩ := hv
  have hx := B.exec
  have hb := B.bytes
  have hr := B.returns
  have hts := atoms_spec (ws := wsX2_put) B.pre
  have hown : s.vm.findClass RX2 = some m.cls := findClass_of_methodNamed B.named
  have hlocks := B.notSynchronized
  subst hsz
  have hD := hD0.self (sz := s.heap.size)
  generalize hAe : va_A (wMD cL cI g0 gm gc gn cd w tb su mx cf nu fr tt) s.heap.size = A at hD ⊢
  have hA : ∀ q : Nat, s.heap.size ≤ q → A q := fun q h => by rw [← hAe]; exact Or.inr h
  have hS : va_S A s.heap s.heap [] := va_S.rf
  have hP : va_P (dC, dI) vwCl [(g0, .inr (2, [.int cd, .ref gm, .long tb, .int (b2i su), .int (b2i mx), .ref gc, .ref gn, .long fr, .long tt])), (gm, .inl (cL, 8192, .inr (.inl w))), (gc, .inl (cI, 8, .inl cf)), (gn, .inl (cL, 8, .inr (.inl nu)))] s.heap := hP
  have hD : va_D A [(g0, .inr (2, [.int cd, .ref gm, .long tb, .int (b2i su), .int (b2i mx), .ref gc, .ref gn, .long fr, .long tt])), (gm, .inl (cL, 8192, .inr (.inl w))), (gc, .inl (cI, 8, .inl cf)), (gn, .inl (cL, 8, .inr (.inl nu)))] := hD
  have hl := lv_entry ([.ref g0, .long ad, .long v]) (n := 5) (Nat.le_of_ble_eq_true rfl)
  rw [lg_entry_eq]
  generalize (lg_sl ([.ref g0, .long ad, .long v]) ++ List.replicate (5 - (lg_sl ([.ref g0, .long ad, .long v])).length) Slot.unset).toArray = ls at hl ⊢
  have hl : lv_has ls 5 [(0, .ref g0), (1, .long ad), (3, .long v)] := hl
  refine lv_aload_n hx hb dX2_put_0 rfl (lv_at hl 0 rfl) ?_
  refine lv_lload_n hx hb dX2_put_1 rfl (lv_at hl 1 rfl) ?_
  refine vp_callSi (W.runS (As := [.long ad]) (rest := [.ref g0]) ⟨hx, hb, hml, hown, hts⟩ (mtX2_isWord l ad) (va_cwS 1 hts (gAll (mc1 (wa 391 (by decide +kernel) rfl) (mc1 (wa 392 (by decide +kernel) rfl) (mc1 (wa 17 (by decide +kernel) rfl) mc0))) (wa 393 (by decide +kernel) rfl) (by decide +kernel)) rfl rfl rfl (by decide +kernel) ⟨Nat.le_of_ble_eq_true rfl, Nat.le_of_ble_eq_true rfl⟩) preEq rfl rfl hl.1 rfl (lv_room (Nat.le_of_ble_eq_true rfl)) dX2_put_2 ⟨Nat.le_of_ble_eq_true rfl, Nat.le_of_ble_eq_true rfl⟩) (fun r_1 er_1 => ?_)
  have er_1 : r_1 = (b2i (m_isWord ad)) := er_1
  subst er_1
  refine lv_if_eq (tgt := 12) hx hb dX2_put_5 (by decide) (fun c_2 => ?_) (fun c_2 => ?_)
  · rw [b2i_z] at c_2
    refine lv_iconst (v := 1) hx hb dX2_put_12 (by decide) ?_
    refine va_put (D := (dC, dI)) (ci := 2) (v := .int 1) (ty := .int) (C := RX2) (T := TX2) (N := 9) hx hb hts iwX2 tyX2 tyX2_ok nmX2 hown hK hP hD hS 0 rfl rfl 0 (by decide) (hts (.fieldLink RX2 20 RX2 "code" "I") (wa 355 (by decide +kernel) rfl)) (fun _ h9 => h9) rfl (by decide +kernel) rfl rfl (Nat.le_of_ble_eq_true rfl) dX2_put_13 (fun H locs hP hD hS => ?_)
    have hP : va_P (dC, dI) vwCl [(g0, .inr (2, [.int 1, .ref gm, .long tb, .int (b2i su), .int (b2i mx), .ref gc, .ref gn, .long fr, .long tt])), (gm, .inl (cL, 8192, .inr (.inl w))), (gc, .inl (cI, 8, .inl cf)), (gn, .inl (cL, 8, .inr (.inl nu)))] H := hP
    have hD : va_D A [(g0, .inr (2, [.int 1, .ref gm, .long tb, .int (b2i su), .int (b2i mx), .ref gc, .ref gn, .long fr, .long tt])), (gm, .inl (cL, 8192, .inr (.inl w))), (gc, .inl (cI, 8, .inl cf)), (gn, .inl (cL, 8, .inr (.inl nu)))] := hD
    refine lv_aload_n hx hb dX2_put_16 rfl (lv_at hl 0 rfl) ?_
    refine va_get (D := (dC, dI)) (ci := 2) (v := .int 1) (C := RX2) (T := TX2) (N := 9) hx hb hts iwX2 hown hK hP 0 rfl rfl 0 (by decide) (hts (.fieldLink RX2 20 RX2 "code" "I") (wa 355 (by decide +kernel) rfl)) (fun _ h9 => h9) rfl dX2_put_17 ?_
    refine lv_if_ne (tgt := 33) hx hb dX2_put_20 (by decide) (fun c_3 => ?_) (fun c_3 => ?_)
    · have hP9 : va_P (dC, dI) vwCl (wMD cL cI g0 gm gc gn 1 w tb su mx cf nu fr tt) H := hP
      have hD9 : va_D A (wMD cL cI g0 gm gc gn 1 w tb su mx cf nu fr tt) := hD
      exact W.vret hx hb hr (fun t ht hW => ⟨⟨(), rfl, trivial, (by rw [ht]; exact hP9), va_K.moved hW.alike hK, hD9⟩, hS.F ht⟩) hS.2.2 dX2_put_33
    · first | exact absurd c_3 (by decide) | exact absurd (by decide) c_3
  · rw [b2i_z] at c_2
    rw [Bool.not_eq_false] at c_2
    exact absurd hw (m_word_t c_2)
set_option maxHeartbeats 4000000 in
set_option maxRecDepth 100000 in
theorem mtX2_setTable (l : Launch) (dC : Nat → ClassId) (dI : Nat → Nat → Nat) (cL : ClassId) (cI : ClassId) (g0 : Nat) (gm : Nat) (gc : Nat) (gn : Nat) (cd : Int32) (w : Nat → Int64) (tb : Int64) (su : Bool) (mx : Bool) (cf : Nat → Int32) (nu : Nat → Int64) (fr : Int64) (tt : Int64) (hz : Nat) (tv : Int64) (hm : k_ush tv 60 = 0 ∨ k_ush tv 60 = 8 ∨ k_ush tv 60 = 9) : Met l yX2_setTable wsX2_setTable ({ frames := 1, cells := 0, slots := 0, locals := 21 }) (va_Pc [.ref g0, .long tv] (fun U => U.heap.size = hz ∧ va_P (dC, dI) vwCl (wMD cL cI g0 gm gc gn cd w tb su mx cf nu fr tt) U.heap ∧ va_K (dC, dI) vwCl [(cL, .long), (cI, .int)] U ∧ va_D (fun _ => True) (wMD cL cI g0 gm gc gn cd w tb su mx cf nu fr tt))) (va_Qv (fun _ : Unit => True) (fun _ t => va_P (dC, dI) vwCl (wMD cL cI g0 gm gc gn 0 w tv su mx cf nu fr tt) t.heap ∧ va_K (dC, dI) vwCl [(cL, .long), (cI, .int)] t ∧ va_D (va_A (wMD cL cI g0 gm gc gn cd w tb su mx cf nu fr tt) hz) (wMD cL cI g0 gm gc gn 0 w tv su mx cf nu fr tt)) (va_A (wMD cL cI g0 gm gc gn cd w tb su mx cf nu fr tt) hz)) 0 0 (va_A (wMD cL cI g0 gm gc gn cd w tb su mx cf nu fr tt) hz) := by
  refine Met.ofW (cc := cX2_setTable) (maxL := 5) (ret := none) (by decide) rfl ?_
  intro p e s m args below meth c s₁ B hml hv
  obtain ⟨rfl, hsz, hP, hK, hD0⟩ := hv
  have hx := B.exec
  have hb := B.bytes
  have hr := B.returns
  have hts := atoms_spec (ws := wsX2_setTable) B.pre
  have hown : s.vm.findClass RX2 = some m.cls := findClass_of_methodNamed B.named
  have hlocks := B.notSynchronized
  subst hsz
  have hD := hD0.self (sz := s.heap.size)
  generalize hAe : va_A (wMD cL cI g0 gm gc gn cd w tb su mx cf nu fr tt) s.heap.size = A at hD ⊢
  have hA : ∀ q : Nat, s.heap.size ≤ q → A q := fun q h => by rw [← hAe]; exact Or.inr h
  have hS : va_S A s.heap s.heap [] := va_S.rf
  have hP : va_P (dC, dI) vwCl [(g0, .inr (2, [.int cd, .ref gm, .long tb, .int (b2i su), .int (b2i mx), .ref gc, .ref gn, .long fr, .long tt])), (gm, .inl (cL, 8192, .inr (.inl w))), (gc, .inl (cI, 8, .inl cf)), (gn, .inl (cL, 8, .inr (.inl nu)))] s.heap := hP
  have hD : va_D A [(g0, .inr (2, [.int cd, .ref gm, .long tb, .int (b2i su), .int (b2i mx), .ref gc, .ref gn, .long fr, .long tt])), (gm, .inl (cL, 8192, .inr (.inl w))), (gc, .inl (cI, 8, .inl cf)), (gn, .inl (cL, 8, .inr (.inl nu)))] := hD
  have hl := lv_entry ([.ref g0, .long tv]) (n := 5) (Nat.le_of_ble_eq_true rfl)
  rw [lg_entry_eq]
  generalize (lg_sl ([.ref g0, .long tv]) ++ List.replicate (5 - (lg_sl ([.ref g0, .long tv])).length) Slot.unset).toArray = ls at hl ⊢
  have hl : lv_has ls 5 [(0, .ref g0), (1, .long tv)] := hl
  refine lv_lload_n hx hb dX2_setTable_0 rfl (lv_at hl 1 rfl) ?_
  refine vp_callSl (W.runS (As := [.long tv]) (rest := []) ⟨hx, hb, hml, hown, hts⟩ (mtX2_sortOf l tv) (va_cwS 1 hts (gAll (mc1 (wa 412 (by decide +kernel) rfl) (mc1 (wa 413 (by decide +kernel) rfl) (mc1 (wa 17 (by decide +kernel) rfl) mc0))) (wa 414 (by decide +kernel) rfl) (by decide +kernel)) rfl rfl rfl (by decide +kernel) ⟨Nat.le_of_ble_eq_true rfl, Nat.le_of_ble_eq_true rfl⟩) preEq rfl rfl hl.1 rfl (lv_room (Nat.le_of_ble_eq_true rfl)) dX2_setTable_1 ⟨Nat.le_of_ble_eq_true rfl, Nat.le_of_ble_eq_true rfl⟩) (fun r_1 er_1 => ?_)
  have er_1 : r_1 = (k_ush tv 60) := er_1
  subst er_1
  refine lv_lstore_n (lv' := [(3, .long (k_ush tv 60)), (0, .ref g0), (1, .long tv)]) hx hb dX2_setTable_4 rfl hl (by decide) rfl (fun ls hl => ?_)
  refine lv_aload_n hx hb dX2_setTable_5 rfl (lv_at hl 1 rfl) ?_
  refine lv_lload_n hx hb dX2_setTable_6 rfl (lv_at hl 0 rfl) ?_
  refine lv_lconst (v := 0) hx hb dX2_setTable_7 (by decide) ?_
  refine W.lcmp hx hb dX2_setTable_8 ?_
  refine lv_if_eq (tgt := 28) hx hb dX2_setTable_9 (by decide) (fun c_2 => ?_) (fun c_2 => ?_)
  · rw [lg_cmp_eq] at c_2
    refine lv_iconst (v := 0) hx hb dX2_setTable_28 (by decide) ?_
    refine lv_goto (tgt := 33) hx hb dX2_setTable_29 (by decide) ?_
    refine va_put (D := (dC, dI)) (ci := 2) (v := .int 0) (ty := .int) (C := RX2) (T := TX2) (N := 9) hx hb hts iwX2 tyX2 tyX2_ok nmX2 hown hK hP hD hS 0 rfl rfl 0 (by decide) (hts (.fieldLink RX2 20 RX2 "code" "I") (wa 355 (by decide +kernel) rfl)) (fun _ h9 => h9) rfl (by decide +kernel) rfl rfl (Nat.le_of_ble_eq_true rfl) dX2_setTable_33 (fun H locs hP hD hS => ?_)
    have hP : va_P (dC, dI) vwCl [(g0, .inr (2, [.int 0, .ref gm, .long tb, .int (b2i su), .int (b2i mx), .ref gc, .ref gn, .long fr, .long tt])), (gm, .inl (cL, 8192, .inr (.inl w))), (gc, .inl (cI, 8, .inl cf)), (gn, .inl (cL, 8, .inr (.inl nu)))] H := hP
    have hD : va_D A [(g0, .inr (2, [.int 0, .ref gm, .long tb, .int (b2i su), .int (b2i mx), .ref gc, .ref gn, .long fr, .long tt])), (gm, .inl (cL, 8192, .inr (.inl w))), (gc, .inl (cI, 8, .inl cf)), (gn, .inl (cL, 8, .inr (.inl nu)))] := hD
    refine lv_aload_n hx hb dX2_setTable_36 rfl (lv_at hl 1 rfl) ?_
    refine va_get (D := (dC, dI)) (ci := 2) (v := .int 0) (C := RX2) (T := TX2) (N := 9) hx hb hts iwX2 hown hK hP 0 rfl rfl 0 (by decide) (hts (.fieldLink RX2 20 RX2 "code" "I") (wa 355 (by decide +kernel) rfl)) (fun _ h9 => h9) rfl dX2_setTable_37 ?_
    refine lv_if_ne (tgt := 48) hx hb dX2_setTable_40 (by decide) (fun c_3 => ?_) (fun c_3 => ?_)
    · first | exact absurd c_3 (by decide) | exact absurd (by decide) c_3
    · refine lv_aload_n hx hb dX2_setTable_43 rfl (lv_at hl 1 rfl) ?_
      refine lv_lload_n hx hb dX2_setTable_44 rfl (lv_at hl 2 rfl) ?_
      refine va_put (D := (dC, dI)) (ci := 2) (v := .long tv) (ty := .long) (C := RX2) (T := TX2) (N := 9) hx hb hts iwX2 tyX2 tyX2_ok nmX2 hown hK hP hD hS 0 rfl rfl 2 (by decide) (hts (.fieldLink RX2 38 RX2 "table" "J") (wa 357 (by decide +kernel) rfl)) (fun _ h9 => h9) rfl (by decide +kernel) rfl rfl (Nat.le_of_ble_eq_true rfl) dX2_setTable_45 (fun H locs hP hD hS => ?_)
      have hP : va_P (dC, dI) vwCl [(g0, .inr (2, [.int 0, .ref gm, .long tv, .int (b2i su), .int (b2i mx), .ref gc, .ref gn, .long fr, .long tt])), (gm, .inl (cL, 8192, .inr (.inl w))), (gc, .inl (cI, 8, .inl cf)), (gn, .inl (cL, 8, .inr (.inl nu)))] H := hP
      have hD : va_D A [(g0, .inr (2, [.int 0, .ref gm, .long tv, .int (b2i su), .int (b2i mx), .ref gc, .ref gn, .long fr, .long tt])), (gm, .inl (cL, 8192, .inr (.inl w))), (gc, .inl (cI, 8, .inl cf)), (gn, .inl (cL, 8, .inr (.inl nu)))] := hD
      have hP9 : va_P (dC, dI) vwCl (wMD cL cI g0 gm gc gn 0 w tv su mx cf nu fr tt) H := hP
      have hD9 : va_D A (wMD cL cI g0 gm gc gn 0 w tv su mx cf nu fr tt) := hD
      exact W.vret hx hb hr (fun t ht hW => ⟨⟨(), rfl, trivial, (by rw [ht]; exact hP9), va_K.moved hW.alike hK, hD9⟩, hS.F ht⟩) hS.2.2 dX2_setTable_48
  · rw [lg_cmp_eq] at c_2
    refine lv_lload_n hx hb dX2_setTable_12 rfl (lv_at hl 0 rfl) ?_
    refine lv_ldc2 (v := 8) hx hb hown (hts (.constantLong RX2 28 8) (wa 396 (by decide +kernel) rfl)) dX2_setTable_13 ?_
    refine W.lcmp hx hb dX2_setTable_16 ?_
    refine lv_if_eq (tgt := 28) hx hb dX2_setTable_17 (by decide) (fun c_4 => ?_) (fun c_4 => ?_)
    · rw [lg_cmp_eq] at c_4
      refine lv_iconst (v := 0) hx hb dX2_setTable_28 (by decide) ?_
      refine lv_goto (tgt := 33) hx hb dX2_setTable_29 (by decide) ?_
      refine va_put (D := (dC, dI)) (ci := 2) (v := .int 0) (ty := .int) (C := RX2) (T := TX2) (N := 9) hx hb hts iwX2 tyX2 tyX2_ok nmX2 hown hK hP hD hS 0 rfl rfl 0 (by decide) (hts (.fieldLink RX2 20 RX2 "code" "I") (wa 355 (by decide +kernel) rfl)) (fun _ h9 => h9) rfl (by decide +kernel) rfl rfl (Nat.le_of_ble_eq_true rfl) dX2_setTable_33 (fun H locs hP hD hS => ?_)
      have hP : va_P (dC, dI) vwCl [(g0, .inr (2, [.int 0, .ref gm, .long tb, .int (b2i su), .int (b2i mx), .ref gc, .ref gn, .long fr, .long tt])), (gm, .inl (cL, 8192, .inr (.inl w))), (gc, .inl (cI, 8, .inl cf)), (gn, .inl (cL, 8, .inr (.inl nu)))] H := hP
      have hD : va_D A [(g0, .inr (2, [.int 0, .ref gm, .long tb, .int (b2i su), .int (b2i mx), .ref gc, .ref gn, .long fr, .long tt])), (gm, .inl (cL, 8192, .inr (.inl w))), (gc, .inl (cI, 8, .inl cf)), (gn, .inl (cL, 8, .inr (.inl nu)))] := hD
      refine lv_aload_n hx hb dX2_setTable_36 rfl (lv_at hl 1 rfl) ?_
      refine va_get (D := (dC, dI)) (ci := 2) (v := .int 0) (C := RX2) (T := TX2) (N := 9) hx hb hts iwX2 hown hK hP 0 rfl rfl 0 (by decide) (hts (.fieldLink RX2 20 RX2 "code" "I") (wa 355 (by decide +kernel) rfl)) (fun _ h9 => h9) rfl dX2_setTable_37 ?_
      refine lv_if_ne (tgt := 48) hx hb dX2_setTable_40 (by decide) (fun c_5 => ?_) (fun c_5 => ?_)
      · first | exact absurd c_5 (by decide) | exact absurd (by decide) c_5
      · refine lv_aload_n hx hb dX2_setTable_43 rfl (lv_at hl 1 rfl) ?_
        refine lv_lload_n hx hb dX2_setTable_44 rfl (lv_at hl 2 rfl) ?_
        refine va_put (D := (dC, dI)) (ci := 2) (v := .long tv) (ty := .long) (C := RX2) (T := TX2) (N := 9) hx hb hts iwX2 tyX2 tyX2_ok nmX2 hown hK hP hD hS 0 rfl rfl 2 (by decide) (hts (.fieldLink RX2 38 RX2 "table" "J") (wa 357 (by decide +kernel) rfl)) (fun _ h9 => h9) rfl (by decide +kernel) rfl rfl (Nat.le_of_ble_eq_true rfl) dX2_setTable_45 (fun H locs hP hD hS => ?_)
        have hP : va_P (dC, dI) vwCl [(g0, .inr (2, [.int 0, .ref gm, .long tv, .int (b2i su), .int (b2i mx), .ref gc, .ref gn, .long fr, .long tt])), (gm, .inl (cL, 8192, .inr (.inl w))), (gc, .inl (cI, 8, .inl cf)), (gn, .inl (cL, 8, .inr (.inl nu)))] H := hP
        have hD : va_D A [(g0, .inr (2, [.int 0, .ref gm, .long tv, .int (b2i su), .int (b2i mx), .ref gc, .ref gn, .long fr, .long tt])), (gm, .inl (cL, 8192, .inr (.inl w))), (gc, .inl (cI, 8, .inl cf)), (gn, .inl (cL, 8, .inr (.inl nu)))] := hD
        have hP9 : va_P (dC, dI) vwCl (wMD cL cI g0 gm gc gn 0 w tv su mx cf nu fr tt) H := hP
        have hD9 : va_D A (wMD cL cI g0 gm gc gn 0 w tv su mx cf nu fr tt) := hD
        exact W.vret hx hb hr (fun t ht hW => ⟨⟨(), rfl, trivial, (by rw [ht]; exact hP9), va_K.moved hW.alike hK, hD9⟩, hS.F ht⟩) hS.2.2 dX2_setTable_48
    · rw [lg_cmp_eq] at c_4
      refine lv_lload_n hx hb dX2_setTable_20 rfl (lv_at hl 0 rfl) ?_
      refine lv_ldc2 (v := 9) hx hb hown (hts (.constantLong RX2 46 9) (wa 415 (by decide +kernel) rfl)) dX2_setTable_21 ?_
      refine W.lcmp hx hb dX2_setTable_24 ?_
      refine lv_if_ne (tgt := 32) hx hb dX2_setTable_25 (by decide) (fun c_6 => ?_) (fun c_6 => ?_)
      · rw [lg_cmp_eq] at c_6
        exact absurd hm (by simp [c_2, c_4, c_6])
      · rw [lg_cmp_eq] at c_6
        refine lv_iconst (v := 0) hx hb dX2_setTable_28 (by decide) ?_
        refine lv_goto (tgt := 33) hx hb dX2_setTable_29 (by decide) ?_
        refine va_put (D := (dC, dI)) (ci := 2) (v := .int 0) (ty := .int) (C := RX2) (T := TX2) (N := 9) hx hb hts iwX2 tyX2 tyX2_ok nmX2 hown hK hP hD hS 0 rfl rfl 0 (by decide) (hts (.fieldLink RX2 20 RX2 "code" "I") (wa 355 (by decide +kernel) rfl)) (fun _ h9 => h9) rfl (by decide +kernel) rfl rfl (Nat.le_of_ble_eq_true rfl) dX2_setTable_33 (fun H locs hP hD hS => ?_)
        have hP : va_P (dC, dI) vwCl [(g0, .inr (2, [.int 0, .ref gm, .long tb, .int (b2i su), .int (b2i mx), .ref gc, .ref gn, .long fr, .long tt])), (gm, .inl (cL, 8192, .inr (.inl w))), (gc, .inl (cI, 8, .inl cf)), (gn, .inl (cL, 8, .inr (.inl nu)))] H := hP
        have hD : va_D A [(g0, .inr (2, [.int 0, .ref gm, .long tb, .int (b2i su), .int (b2i mx), .ref gc, .ref gn, .long fr, .long tt])), (gm, .inl (cL, 8192, .inr (.inl w))), (gc, .inl (cI, 8, .inl cf)), (gn, .inl (cL, 8, .inr (.inl nu)))] := hD
        refine lv_aload_n hx hb dX2_setTable_36 rfl (lv_at hl 1 rfl) ?_
        refine va_get (D := (dC, dI)) (ci := 2) (v := .int 0) (C := RX2) (T := TX2) (N := 9) hx hb hts iwX2 hown hK hP 0 rfl rfl 0 (by decide) (hts (.fieldLink RX2 20 RX2 "code" "I") (wa 355 (by decide +kernel) rfl)) (fun _ h9 => h9) rfl dX2_setTable_37 ?_
        refine lv_if_ne (tgt := 48) hx hb dX2_setTable_40 (by decide) (fun c_7 => ?_) (fun c_7 => ?_)
        · first | exact absurd c_7 (by decide) | exact absurd (by decide) c_7
        · refine lv_aload_n hx hb dX2_setTable_43 rfl (lv_at hl 1 rfl) ?_
          refine lv_lload_n hx hb dX2_setTable_44 rfl (lv_at hl 2 rfl) ?_
          refine va_put (D := (dC, dI)) (ci := 2) (v := .long tv) (ty := .long) (C := RX2) (T := TX2) (N := 9) hx hb hts iwX2 tyX2 tyX2_ok nmX2 hown hK hP hD hS 0 rfl rfl 2 (by decide) (hts (.fieldLink RX2 38 RX2 "table" "J") (wa 357 (by decide +kernel) rfl)) (fun _ h9 => h9) rfl (by decide +kernel) rfl rfl (Nat.le_of_ble_eq_true rfl) dX2_setTable_45 (fun H locs hP hD hS => ?_)
          have hP : va_P (dC, dI) vwCl [(g0, .inr (2, [.int 0, .ref gm, .long tv, .int (b2i su), .int (b2i mx), .ref gc, .ref gn, .long fr, .long tt])), (gm, .inl (cL, 8192, .inr (.inl w))), (gc, .inl (cI, 8, .inl cf)), (gn, .inl (cL, 8, .inr (.inl nu)))] H := hP
          have hD : va_D A [(g0, .inr (2, [.int 0, .ref gm, .long tv, .int (b2i su), .int (b2i mx), .ref gc, .ref gn, .long fr, .long tt])), (gm, .inl (cL, 8192, .inr (.inl w))), (gc, .inl (cI, 8, .inl cf)), (gn, .inl (cL, 8, .inr (.inl nu)))] := hD
          have hP9 : va_P (dC, dI) vwCl (wMD cL cI g0 gm gc gn 0 w tv su mx cf nu fr tt) H := hP
          have hD9 : va_D A (wMD cL cI g0 gm gc gn 0 w tv su mx cf nu fr tt) := hD
          exact W.vret hx hb hr (fun t ht hW => ⟨⟨(), rfl, trivial, (by rw [ht]; exact hP9), va_K.moved hW.alike hK, hD9⟩, hS.F ht⟩) hS.2.2 dX2_setTable_48
set_option maxHeartbeats 4000000 in
set_option maxRecDepth 100000 in
theorem mtX2_setTable_no (l : Launch) (dC : Nat → ClassId) (dI : Nat → Nat → Nat) (cL : ClassId) (cI : ClassId) (g0 : Nat) (gm : Nat) (gc : Nat) (gn : Nat) (cd : Int32) (w : Nat → Int64) (tb : Int64) (su : Bool) (mx : Bool) (cf : Nat → Int32) (nu : Nat → Int64) (fr : Int64) (tt : Int64) (hz : Nat) (tv : Int64) (hm : ¬ (k_ush tv 60 = 0 ∨ k_ush tv 60 = 8 ∨ k_ush tv 60 = 9)) : Met l yX2_setTable wsX2_setTable ({ frames := 1, cells := 0, slots := 0, locals := 21 }) (va_Pc [.ref g0, .long tv] (fun U => U.heap.size = hz ∧ va_P (dC, dI) vwCl (wMD cL cI g0 gm gc gn cd w tb su mx cf nu fr tt) U.heap ∧ va_K (dC, dI) vwCl [(cL, .long), (cI, .int)] U ∧ va_D (fun _ => True) (wMD cL cI g0 gm gc gn cd w tb su mx cf nu fr tt))) (va_Qv (fun _ : Unit => True) (fun _ t => va_P (dC, dI) vwCl (wMD cL cI g0 gm gc gn 1 w tb su mx cf nu fr tt) t.heap ∧ va_K (dC, dI) vwCl [(cL, .long), (cI, .int)] t ∧ va_D (va_A (wMD cL cI g0 gm gc gn cd w tb su mx cf nu fr tt) hz) (wMD cL cI g0 gm gc gn 1 w tb su mx cf nu fr tt)) (va_A (wMD cL cI g0 gm gc gn cd w tb su mx cf nu fr tt) hz)) 0 0 (va_A (wMD cL cI g0 gm gc gn cd w tb su mx cf nu fr tt) hz) := by
  refine Met.ofW (cc := cX2_setTable) (maxL := 5) (ret := none) (by decide) rfl ?_
  intro p e s m args below meth c s₁ B hml hv
  obtain ⟨rfl, hsz, hP, hK, hD0⟩ := hv
  have hx := B.exec
  have hb := B.bytes
  have hr := B.returns
  have hts := atoms_spec (ws := wsX2_setTable) B.pre
  have hown : s.vm.findClass RX2 = some m.cls := findClass_of_methodNamed B.named
  have hlocks := B.notSynchronized
  subst hsz
  have hD := hD0.self (sz := s.heap.size)
  generalize hAe : va_A (wMD cL cI g0 gm gc gn cd w tb su mx cf nu fr tt) s.heap.size = A at hD ⊢
  have hA : ∀ q : Nat, s.heap.size ≤ q → A q := fun q h => by rw [← hAe]; exact Or.inr h
  have hS : va_S A s.heap s.heap [] := va_S.rf
  have hP : va_P (dC, dI) vwCl [(g0, .inr (2, [.int cd, .ref gm, .long tb, .int (b2i su), .int (b2i mx), .ref gc, .ref gn, .long fr, .long tt])), (gm, .inl (cL, 8192, .inr (.inl w))), (gc, .inl (cI, 8, .inl cf)), (gn, .inl (cL, 8, .inr (.inl nu)))] s.heap := hP
  have hD : va_D A [(g0, .inr (2, [.int cd, .ref gm, .long tb, .int (b2i su), .int (b2i mx), .ref gc, .ref gn, .long fr, .long tt])), (gm, .inl (cL, 8192, .inr (.inl w))), (gc, .inl (cI, 8, .inl cf)), (gn, .inl (cL, 8, .inr (.inl nu)))] := hD
  have hl := lv_entry ([.ref g0, .long tv]) (n := 5) (Nat.le_of_ble_eq_true rfl)
  rw [lg_entry_eq]
  generalize (lg_sl ([.ref g0, .long tv]) ++ List.replicate (5 - (lg_sl ([.ref g0, .long tv])).length) Slot.unset).toArray = ls at hl ⊢
  have hl : lv_has ls 5 [(0, .ref g0), (1, .long tv)] := hl
  refine lv_lload_n hx hb dX2_setTable_0 rfl (lv_at hl 1 rfl) ?_
  refine vp_callSl (W.runS (As := [.long tv]) (rest := []) ⟨hx, hb, hml, hown, hts⟩ (mtX2_sortOf l tv) (va_cwS 1 hts (gAll (mc1 (wa 412 (by decide +kernel) rfl) (mc1 (wa 413 (by decide +kernel) rfl) (mc1 (wa 17 (by decide +kernel) rfl) mc0))) (wa 414 (by decide +kernel) rfl) (by decide +kernel)) rfl rfl rfl (by decide +kernel) ⟨Nat.le_of_ble_eq_true rfl, Nat.le_of_ble_eq_true rfl⟩) preEq rfl rfl hl.1 rfl (lv_room (Nat.le_of_ble_eq_true rfl)) dX2_setTable_1 ⟨Nat.le_of_ble_eq_true rfl, Nat.le_of_ble_eq_true rfl⟩) (fun r_1 er_1 => ?_)
  have er_1 : r_1 = (k_ush tv 60) := er_1
  subst er_1
  refine lv_lstore_n (lv' := [(3, .long (k_ush tv 60)), (0, .ref g0), (1, .long tv)]) hx hb dX2_setTable_4 rfl hl (by decide) rfl (fun ls hl => ?_)
  refine lv_aload_n hx hb dX2_setTable_5 rfl (lv_at hl 1 rfl) ?_
  refine lv_lload_n hx hb dX2_setTable_6 rfl (lv_at hl 0 rfl) ?_
  refine lv_lconst (v := 0) hx hb dX2_setTable_7 (by decide) ?_
  refine W.lcmp hx hb dX2_setTable_8 ?_
  refine lv_if_eq (tgt := 28) hx hb dX2_setTable_9 (by decide) (fun c_2 => ?_) (fun c_2 => ?_)
  · rw [lg_cmp_eq] at c_2
    exact absurd (by simp [c_2]) hm
  · rw [lg_cmp_eq] at c_2
    refine lv_lload_n hx hb dX2_setTable_12 rfl (lv_at hl 0 rfl) ?_
    refine lv_ldc2 (v := 8) hx hb hown (hts (.constantLong RX2 28 8) (wa 396 (by decide +kernel) rfl)) dX2_setTable_13 ?_
    refine W.lcmp hx hb dX2_setTable_16 ?_
    refine lv_if_eq (tgt := 28) hx hb dX2_setTable_17 (by decide) (fun c_3 => ?_) (fun c_3 => ?_)
    · rw [lg_cmp_eq] at c_3
      exact absurd (by simp [c_2, c_3]) hm
    · rw [lg_cmp_eq] at c_3
      refine lv_lload_n hx hb dX2_setTable_20 rfl (lv_at hl 0 rfl) ?_
      refine lv_ldc2 (v := 9) hx hb hown (hts (.constantLong RX2 46 9) (wa 415 (by decide +kernel) rfl)) dX2_setTable_21 ?_
      refine W.lcmp hx hb dX2_setTable_24 ?_
      refine lv_if_ne (tgt := 32) hx hb dX2_setTable_25 (by decide) (fun c_4 => ?_) (fun c_4 => ?_)
      · rw [lg_cmp_eq] at c_4
        refine lv_iconst (v := 1) hx hb dX2_setTable_32 (by decide) ?_
        refine va_put (D := (dC, dI)) (ci := 2) (v := .int 1) (ty := .int) (C := RX2) (T := TX2) (N := 9) hx hb hts iwX2 tyX2 tyX2_ok nmX2 hown hK hP hD hS 0 rfl rfl 0 (by decide) (hts (.fieldLink RX2 20 RX2 "code" "I") (wa 355 (by decide +kernel) rfl)) (fun _ h9 => h9) rfl (by decide +kernel) rfl rfl (Nat.le_of_ble_eq_true rfl) dX2_setTable_33 (fun H locs hP hD hS => ?_)
        have hP : va_P (dC, dI) vwCl [(g0, .inr (2, [.int 1, .ref gm, .long tb, .int (b2i su), .int (b2i mx), .ref gc, .ref gn, .long fr, .long tt])), (gm, .inl (cL, 8192, .inr (.inl w))), (gc, .inl (cI, 8, .inl cf)), (gn, .inl (cL, 8, .inr (.inl nu)))] H := hP
        have hD : va_D A [(g0, .inr (2, [.int 1, .ref gm, .long tb, .int (b2i su), .int (b2i mx), .ref gc, .ref gn, .long fr, .long tt])), (gm, .inl (cL, 8192, .inr (.inl w))), (gc, .inl (cI, 8, .inl cf)), (gn, .inl (cL, 8, .inr (.inl nu)))] := hD
        refine lv_aload_n hx hb dX2_setTable_36 rfl (lv_at hl 1 rfl) ?_
        refine va_get (D := (dC, dI)) (ci := 2) (v := .int 1) (C := RX2) (T := TX2) (N := 9) hx hb hts iwX2 hown hK hP 0 rfl rfl 0 (by decide) (hts (.fieldLink RX2 20 RX2 "code" "I") (wa 355 (by decide +kernel) rfl)) (fun _ h9 => h9) rfl dX2_setTable_37 ?_
        refine lv_if_ne (tgt := 48) hx hb dX2_setTable_40 (by decide) (fun c_5 => ?_) (fun c_5 => ?_)
        · have hP9 : va_P (dC, dI) vwCl (wMD cL cI g0 gm gc gn 1 w tb su mx cf nu fr tt) H := hP
          have hD9 : va_D A (wMD cL cI g0 gm gc gn 1 w tb su mx cf nu fr tt) := hD
          exact W.vret hx hb hr (fun t ht hW => ⟨⟨(), rfl, trivial, (by rw [ht]; exact hP9), va_K.moved hW.alike hK, hD9⟩, hS.F ht⟩) hS.2.2 dX2_setTable_48
        · first | exact absurd c_5 (by decide) | exact absurd (by decide) c_5
      · rw [lg_cmp_eq] at c_4
        exact absurd (by simp [c_2, c_3, c_4]) hm
set_option maxHeartbeats 4000000 in
set_option maxRecDepth 100000 in
theorem mtX2_configs (l : Launch) (dC : Nat → ClassId) (dI : Nat → Nat → Nat) (cL : ClassId) (cI : ClassId) (g0 : Nat) (gm : Nat) (gc : Nat) (gn : Nat) (cd : Int32) (w : Nat → Int64) (tb : Int64) (su : Bool) (mx : Bool) (cf : Nat → Int32) (nu : Nat → Int64) (fr : Int64) (tt : Int64) (hz : Nat)   : Met l yX2_configs wsX2_configs ({ frames := 0, cells := 0, slots := 0, locals := 0 }) (va_Pc [.ref g0] (fun U => U.heap.size = hz ∧ va_P (dC, dI) vwCl (wMD cL cI g0 gm gc gn cd w tb su mx cf nu fr tt) U.heap ∧ va_K (dC, dI) vwCl [(cL, .long), (cI, .int)] U ∧ va_D (fun _ => True) (wMD cL cI g0 gm gc gn cd w tb su mx cf nu fr tt))) (va_Ql (fun r (_ : Unit) => r = (m_packF cf 8)) (fun _ t => va_P (dC, dI) vwCl (wMD cL cI g0 gm gc gn 0 w tb su mx cf nu fr tt) t.heap ∧ va_K (dC, dI) vwCl [(cL, .long), (cI, .int)] t ∧ va_D (va_A (wMD cL cI g0 gm gc gn cd w tb su mx cf nu fr tt) hz) (wMD cL cI g0 gm gc gn 0 w tb su mx cf nu fr tt)) (va_A (wMD cL cI g0 gm gc gn cd w tb su mx cf nu fr tt) hz)) 0 0 (va_A (wMD cL cI g0 gm gc gn cd w tb su mx cf nu fr tt) hz) := by
  refine Met.ofW (cc := cX2_configs) (maxL := 4) (ret := (some .long)) (by decide) rfl ?_
  intro p e s m args below meth c s₁ B hml hv
  obtain ⟨rfl, hsz, hP, hK, hD0⟩ := hv
  have hx := B.exec
  have hb := B.bytes
  have hr := B.returns
  have hts := atoms_spec (ws := wsX2_configs) B.pre
  have hown : s.vm.findClass RX2 = some m.cls := findClass_of_methodNamed B.named
  have hlocks := B.notSynchronized
  subst hsz
  have hD := hD0.self (sz := s.heap.size)
  generalize hAe : va_A (wMD cL cI g0 gm gc gn cd w tb su mx cf nu fr tt) s.heap.size = A at hD ⊢
  have hA : ∀ q : Nat, s.heap.size ≤ q → A q := fun q h => by rw [← hAe]; exact Or.inr h
  have hS : va_S A s.heap s.heap [] := va_S.rf
  have hP : va_P (dC, dI) vwCl [(g0, .inr (2, [.int cd, .ref gm, .long tb, .int (b2i su), .int (b2i mx), .ref gc, .ref gn, .long fr, .long tt])), (gm, .inl (cL, 8192, .inr (.inl w))), (gc, .inl (cI, 8, .inl cf)), (gn, .inl (cL, 8, .inr (.inl nu)))] s.heap := hP
  have hD : va_D A [(g0, .inr (2, [.int cd, .ref gm, .long tb, .int (b2i su), .int (b2i mx), .ref gc, .ref gn, .long fr, .long tt])), (gm, .inl (cL, 8192, .inr (.inl w))), (gc, .inl (cI, 8, .inl cf)), (gn, .inl (cL, 8, .inr (.inl nu)))] := hD
  have hl := lv_entry ([.ref g0]) (n := 4) (Nat.le_of_ble_eq_true rfl)
  rw [lg_entry_eq]
  generalize (lg_sl ([.ref g0]) ++ List.replicate (4 - (lg_sl ([.ref g0])).length) Slot.unset).toArray = ls at hl ⊢
  have hl : lv_has ls 4 [(0, .ref g0)] := hl
  have loop : ∀ (r : Nat) (ls : Array Slot) (H : Heap) (locs : List Loc), r ≤ 8 → va_P (dC, dI) vwCl (wMD cL cI g0 gm gc gn 0 w tb su mx cf nu fr tt) H → va_D A (wMD cL cI g0 gm gc gn 0 w tb su mx cf nu fr tt) → va_S A s.heap H locs → lv_has ls 4 [(0, .ref g0), (1, .long (m_packF cf (8 - r))), (3, .int (nI r - 1))] → W p l e (headSpec wsX2_configs ({ frames := 0, cells := 0, slots := 0, locals := 0 })).room s m (([.ref g0] : List Value).toArray) below meth c H locs 0 0 (MQ below (va_Ql (fun r (_ : Unit) => r = (m_packF cf 8)) (fun _ t => va_P (dC, dI) vwCl (wMD cL cI g0 gm gc gn 0 w tb su mx cf nu fr tt) t.heap ∧ va_K (dC, dI) vwCl [(cL, .long), (cI, .int)] t ∧ va_D A (wMD cL cI g0 gm gc gn 0 w tb su mx cf nu fr tt)) A) (([.ref g0] : List Value).toArray) s 0 0 A) (F0 m 10 ls []) := by
    intro r
    induction r with
    | zero =>
      intro ls H locs hr8 hP hD hS hl
      refine lv_iload_n hx hb dX2_configs_10 rfl (lv_at hl 2 rfl) ?_
      refine lv_if_lt (tgt := 34) hx hb dX2_configs_11 (by decide) (fun c_1 => ?_) (fun c_1 => ?_)
      · refine lv_lload_n hx hb dX2_configs_34 rfl (lv_at hl 1 rfl) ?_
        have hP9 : va_P (dC, dI) vwCl (wMD cL cI g0 gm gc gn 0 w tb su mx cf nu fr tt) H := hP
        have hD9 : va_D A (wMD cL cI g0 gm gc gn 0 w tb su mx cf nu fr tt) := hD
        exact W.lret (v := (m_packF cf (8 - 0))) hx hb hr (fun t ht hW => ⟨⟨(m_packF cf (8 - 0)), (), rfl, (by first | rfl | (simp only [c_1, b2i, decide_true, decide_false, Bool.not_true, Bool.not_false, Bool.and_true, Bool.and_false, Bool.true_and, Bool.false_and, Bool.or_true, Bool.or_false, Bool.true_or, Bool.false_or, reduceIte, or_true, true_or, or_false, false_or, and_true, true_and, and_false, false_and, not_true_eq_false, not_false_eq_true, Bool.false_eq_true, eq_self]; done) | (simp [c_1]; done)), (by rw [ht]; exact hP9), va_K.moved hW.alike hK, hD9⟩, hS.F ht⟩) hS.2.2 dX2_configs_35
      · exact absurd (by decide) c_1
    | succ r ih =>
      intro ls H locs hr8 hP hD hS hl
      rw [nI_pred] at hl
      refine lv_iload_n hx hb dX2_configs_10 rfl (lv_at hl 2 rfl) ?_
      refine lv_if_lt (tgt := 34) hx hb dX2_configs_11 (by decide) (fun c_2 => ?_) (fun c_2 => ?_)
      · exact absurd c_2 (nI_pos (by omega))
      · refine lv_ldc2 (v := 256) hx hb hown (hts (.constantLong RX2 55 256) (wa 424 (by decide +kernel) rfl)) dX2_configs_14 ?_
        refine lv_lload_n hx hb dX2_configs_17 rfl (lv_at hl 1 rfl) ?_
        refine lv_lmul hx hb dX2_configs_18 ?_
        refine lv_aload_n hx hb dX2_configs_19 rfl (lv_at hl 0 rfl) ?_
        refine va_get (D := (dC, dI)) (ci := 2) (v := .ref gc) (C := RX2) (T := TX2) (N := 9) hx hb hts iwX2 hown hK hP 0 rfl rfl 5 (by decide) (hts (.fieldLink RX2 13 RX2 "configs" "[I") (wa 360 (by decide +kernel) rfl)) (fun _ h9 => h9) rfl dX2_configs_20 ?_
        refine lv_iload_n hx hb dX2_configs_23 rfl (lv_at hl 2 rfl) ?_
        refine va_iald hx hb hK hP 2 1 rfl rfl (vp_in_nI (show r < 8 by omega) (by omega)) dX2_configs_24 ?_
        rw [nI_clamp (show r < 2 ^ 31 by omega)]
        refine lv_i2l (v := Int32.toInt64 (cf r)) hx hb dX2_configs_25 rfl ?_
        refine lv_ladd hx hb dX2_configs_26 ?_
        refine lv_lstore_n (lv' := [(1, .long ((256 * (m_packF cf (8 - (r + 1)))) + (Int32.toInt64 (cf r)))), (0, .ref g0), (3, .int (nI r))]) hx hb dX2_configs_27 rfl hl (by decide) rfl (fun ls hl => ?_)
        refine lv_iinc (v := ((nI r) + (-1))) (lv' := [(3, .int ((nI r) + (-1))), (1, .long ((256 * (m_packF cf (8 - (r + 1)))) + (Int32.toInt64 (cf r)))), (0, .ref g0)]) hx hb dX2_configs_28 hl (k := 2) rfl rfl (by decide) rfl (fun ls hl => ?_)
        refine lv_goto (tgt := 10) hx hb dX2_configs_31 (by decide) ?_
        rw [show nI r + (-1) = nI r - 1 from (Int32.sub_eq_add_neg ..).symm, ← m_pack_step cf hr8] at hl
        exact ih ls _ _ (by omega) hP hD hS (lv_sub hl [2, 1, 0] rfl)
  refine lv_aload_n hx hb dX2_configs_0 rfl (lv_at hl 0 rfl) ?_
  refine lv_iconst (v := 0) hx hb dX2_configs_1 (by decide) ?_
  refine va_put (D := (dC, dI)) (ci := 2) (v := .int 0) (ty := .int) (C := RX2) (T := TX2) (N := 9) hx hb hts iwX2 tyX2 tyX2_ok nmX2 hown hK hP hD hS 0 rfl rfl 0 (by decide) (hts (.fieldLink RX2 20 RX2 "code" "I") (wa 355 (by decide +kernel) rfl)) (fun _ h9 => h9) rfl (by decide +kernel) rfl rfl (Nat.le_of_ble_eq_true rfl) dX2_configs_2 (fun H locs hP hD hS => ?_)
  have hP : va_P (dC, dI) vwCl [(g0, .inr (2, [.int 0, .ref gm, .long tb, .int (b2i su), .int (b2i mx), .ref gc, .ref gn, .long fr, .long tt])), (gm, .inl (cL, 8192, .inr (.inl w))), (gc, .inl (cI, 8, .inl cf)), (gn, .inl (cL, 8, .inr (.inl nu)))] H := hP
  have hD : va_D A [(g0, .inr (2, [.int 0, .ref gm, .long tb, .int (b2i su), .int (b2i mx), .ref gc, .ref gn, .long fr, .long tt])), (gm, .inl (cL, 8192, .inr (.inl w))), (gc, .inl (cI, 8, .inl cf)), (gn, .inl (cL, 8, .inr (.inl nu)))] := hD
  refine lv_lconst (v := 0) hx hb dX2_configs_5 (by decide) ?_
  refine lv_lstore_n (lv' := [(1, .long 0), (0, .ref g0)]) hx hb dX2_configs_6 rfl hl (by decide) rfl (fun ls hl => ?_)
  refine lv_bipush (v := 7) hx hb dX2_configs_7 (by decide) ?_
  refine lv_istore_n (lv' := [(3, .int 7), (1, .long 0), (0, .ref g0)]) hx hb dX2_configs_9 rfl hl (by decide) rfl (fun ls hl => ?_)
  exact loop 8 ls _ _ (by omega) hP hD hS (lv_sub hl [2, 1, 0] rfl)
set_option maxHeartbeats 4000000 in
set_option maxRecDepth 100000 in
theorem mtX2_setConfigs (l : Launch) (dC : Nat → ClassId) (dI : Nat → Nat → Nat) (cL : ClassId) (cI : ClassId) (g0 : Nat) (gm : Nat) (gc : Nat) (gn : Nat) (cd : Int32) (w : Nat → Int64) (tb : Int64) (su : Bool) (mx : Bool) (cf : Nat → Int32) (nu : Nat → Int64) (fr : Int64) (tt : Int64) (hz : Nat) (cv : Int64) (hc : okC cf) : Met l yX2_setConfigs wsX2_setConfigs ({ frames := 1, cells := 0, slots := 0, locals := 22 }) (va_Pc [.ref g0, .long cv] (fun U => U.heap.size = hz ∧ va_P (dC, dI) vwCl (wMD cL cI g0 gm gc gn cd w tb su mx cf nu fr tt) U.heap ∧ va_K (dC, dI) vwCl [(cL, .long), (cI, .int)] U ∧ va_D (fun _ => True) (wMD cL cI g0 gm gc gn cd w tb su mx cf nu fr tt))) (va_Qv (fun _ : Unit => True) (fun _ t => va_P (dC, dI) vwCl (wMD cL cI g0 gm gc gn 0 w tb su mx (k_takeF cf cv 8) nu fr tt) t.heap ∧ va_K (dC, dI) vwCl [(cL, .long), (cI, .int)] t ∧ va_D (va_A (wMD cL cI g0 gm gc gn cd w tb su mx cf nu fr tt) hz) (wMD cL cI g0 gm gc gn 0 w tb su mx (k_takeF cf cv 8) nu fr tt)) (va_A (wMD cL cI g0 gm gc gn cd w tb su mx cf nu fr tt) hz)) 0 0 (va_A (wMD cL cI g0 gm gc gn cd w tb su mx cf nu fr tt) hz) := by
  refine Met.ofW (cc := cX2_setConfigs) (maxL := 5) (ret := none) (by decide) rfl ?_
  intro p e s m args below meth c s₁ B hml hv
  obtain ⟨rfl, hsz, hP, hK, hD0⟩ := hv
  have hx := B.exec
  have hb := B.bytes
  have hr := B.returns
  have hts := atoms_spec (ws := wsX2_setConfigs) B.pre
  have hown : s.vm.findClass RX2 = some m.cls := findClass_of_methodNamed B.named
  have hlocks := B.notSynchronized
  subst hsz
  have hD := hD0.self (sz := s.heap.size)
  generalize hAe : va_A (wMD cL cI g0 gm gc gn cd w tb su mx cf nu fr tt) s.heap.size = A at hD ⊢
  have hA : ∀ q : Nat, s.heap.size ≤ q → A q := fun q h => by rw [← hAe]; exact Or.inr h
  have hS : va_S A s.heap s.heap [] := va_S.rf
  have hP : va_P (dC, dI) vwCl [(g0, .inr (2, [.int cd, .ref gm, .long tb, .int (b2i su), .int (b2i mx), .ref gc, .ref gn, .long fr, .long tt])), (gm, .inl (cL, 8192, .inr (.inl w))), (gc, .inl (cI, 8, .inl cf)), (gn, .inl (cL, 8, .inr (.inl nu)))] s.heap := hP
  have hD : va_D A [(g0, .inr (2, [.int cd, .ref gm, .long tb, .int (b2i su), .int (b2i mx), .ref gc, .ref gn, .long fr, .long tt])), (gm, .inl (cL, 8192, .inr (.inl w))), (gc, .inl (cI, 8, .inl cf)), (gn, .inl (cL, 8, .inr (.inl nu)))] := hD
  have hl := lv_entry ([.ref g0, .long cv]) (n := 5) (Nat.le_of_ble_eq_true rfl)
  rw [lg_entry_eq]
  generalize (lg_sl ([.ref g0, .long cv]) ++ List.replicate (5 - (lg_sl ([.ref g0, .long cv])).length) Slot.unset).toArray = ls at hl ⊢
  have hl : lv_has ls 5 [(0, .ref g0), (1, .long cv)] := hl
  have loop : ∀ (n k : Nat) (ls : Array Slot) (H : Heap) (locs : List Loc), k ≤ 8 → 9 ≤ k + n → va_P (dC, dI) vwCl (wMD cL cI g0 gm gc gn 0 w tb su mx (k_takeF cf cv k) nu fr tt) H → va_D A (wMD cL cI g0 gm gc gn 0 w tb su mx (k_takeF cf cv k) nu fr tt) → va_S A s.heap H locs → lv_has ls 5 [(0, .ref g0), (1, .long cv), (3, .int (nI k))] → W p l e (headSpec wsX2_setConfigs ({ frames := 1, cells := 0, slots := 0, locals := 22 })).room s m (([.ref g0, .long cv] : List Value).toArray) below meth c H locs 0 0 (MQ below (va_Qv (fun _ : Unit => True) (fun _ t => va_P (dC, dI) vwCl (wMD cL cI g0 gm gc gn 0 w tb su mx (k_takeF cf cv 8) nu fr tt) t.heap ∧ va_K (dC, dI) vwCl [(cL, .long), (cI, .int)] t ∧ va_D A (wMD cL cI g0 gm gc gn 0 w tb su mx (k_takeF cf cv 8) nu fr tt)) A) (([.ref g0, .long cv] : List Value).toArray) s 0 0 A) (F0 m 7 ls []) := by
    intro n
    induction n with
    | zero =>
      intro k ls H locs h1 h2
      exact absurd h2 (by omega)
    | succ n ih =>
      intro k ls H locs hk hn hP hD hS hl
      refine lv_iload_n hx hb dX2_setConfigs_7 rfl (lv_at hl 2 rfl) ?_
      refine lv_bipush (v := 8) hx hb dX2_setConfigs_8 (by decide) ?_
      refine lv_icmp_ge (tgt := 78) hx hb dX2_setConfigs_10 (by decide) (fun c_1 => ?_) (fun c_1 => ?_)
      · have hk8 : k = 8 := k8_eq hk c_1
        have w9_0 : (k_takeF cf cv 8) = (k_takeF cf cv k) := (by first | rfl | (simp only [c_1, hk8, b2i, decide_true, decide_false, Bool.not_true, Bool.not_false, Bool.and_true, Bool.and_false, Bool.true_and, Bool.false_and, Bool.or_true, Bool.or_false, Bool.true_or, Bool.false_or, reduceIte, or_true, true_or, or_false, false_or, and_true, true_and, and_false, false_and, not_true_eq_false, not_false_eq_true, Bool.false_eq_true, eq_self]; done) | (simp [c_1, hk8]; done))
        have hP9 : va_P (dC, dI) vwCl (wMD cL cI g0 gm gc gn 0 w tb su mx (k_takeF cf cv 8) nu fr tt) H := (by rw [w9_0]; exact hP)
        have hD9 : va_D A (wMD cL cI g0 gm gc gn 0 w tb su mx (k_takeF cf cv 8) nu fr tt) := (by rw [w9_0]; exact hD)
        exact W.vret hx hb hr (fun t ht hW => ⟨⟨(), rfl, trivial, (by rw [ht]; exact hP9), va_K.moved hW.alike hK, hD9⟩, hS.F ht⟩) hS.2.2 dX2_setConfigs_78
      · have hk8 : k < 8 := k8_lt hk c_1
        refine lv_lload_n hx hb dX2_setConfigs_13 rfl (lv_at hl 1 rfl) ?_
        refine lv_bipush (v := 8) hx hb dX2_setConfigs_14 (by decide) ?_
        refine lv_iload_n hx hb dX2_setConfigs_16 rfl (lv_at hl 2 rfl) ?_
        refine lv_imul hx hb dX2_setConfigs_17 ?_
        refine lv_lushr (v := (k_ush cv (8 * (nI k)))) hx hb dX2_setConfigs_18 rfl ?_
        refine lv_l2i (v := Int64.toInt32 (k_ush cv (8 * (nI k)))) hx hb dX2_setConfigs_19 rfl ?_
        refine lv_sipush (v := 159) hx hb dX2_setConfigs_20 (by decide) ?_
        refine lv_iand hx hb dX2_setConfigs_23 ?_
        refine lv_istore (lv' := [(4, .int ((Int64.toInt32 (k_ush cv (8 * (nI k)))) &&& 159)), (0, .ref g0), (1, .long cv), (3, .int (nI k))]) hx hb dX2_setConfigs_24 hl (by decide) rfl (fun ls hl => ?_)
        refine lv_iload hx hb dX2_setConfigs_26 (lv_at hl 0 rfl) ?_
        refine lv_iconst (v := 3) hx hb dX2_setConfigs_28 (by decide) ?_
        refine lv_iand hx hb dX2_setConfigs_29 ?_
        refine lv_iconst (v := 2) hx hb dX2_setConfigs_30 (by decide) ?_
        refine lv_icmp_ne (tgt := 41) hx hb dX2_setConfigs_31 (by decide) (fun c_2 => ?_) (fun c_2 => ?_)
        · refine lv_iload hx hb dX2_setConfigs_41 (lv_at hl 0 rfl) ?_
          refine lv_istore (lv' := [(4, .int ((Int64.toInt32 (k_ush cv (8 * (nI k)))) &&& 159)), (0, .ref g0), (1, .long cv), (3, .int (nI k))]) hx hb dX2_setConfigs_43 hl (by decide) rfl (fun ls hl => ?_)
          refine lv_aload_n hx hb dX2_setConfigs_45 rfl (lv_at hl 1 rfl) ?_
          refine va_get (D := (dC, dI)) (ci := 2) (v := .ref gc) (C := RX2) (T := TX2) (N := 9) hx hb hts iwX2 hown hK hP 0 rfl rfl 5 (by decide) (hts (.fieldLink RX2 13 RX2 "configs" "[I") (wa 360 (by decide +kernel) rfl)) (fun _ h9 => h9) rfl dX2_setConfigs_46 ?_
          refine lv_iload_n hx hb dX2_setConfigs_49 rfl (lv_at hl 3 rfl) ?_
          refine lv_aload_n hx hb dX2_setConfigs_50 rfl (lv_at hl 1 rfl) ?_
          refine lv_iload_n hx hb dX2_setConfigs_51 rfl (lv_at hl 3 rfl) ?_
          refine lv_bipush (v := 7) hx hb dX2_setConfigs_52 (by decide) ?_
          refine vp_callSi (W.runV (As := [.int (nI k), .int 7]) (rest := [.int (nI k), .ref gc]) ⟨hx, hb, hml, hown, hts⟩ (mtX2_has l dC dI cL cI g0 gm gc gn 0 w tb su mx (k_takeF cf cv k) nu fr tt k 7 (hk8)) (cwV 2 hts (gAll (mc1 (wa 429 (by decide +kernel) rfl) (mc1 (wa 431 (by decide +kernel) rfl) (mc1 (wa 7 (by decide +kernel) rfl) (mc1 (wa 17 (by decide +kernel) rfl) mc0)))) (wa 432 (by decide +kernel) rfl) (by decide +kernel)) rfl rfl rfl (by decide +kernel) ⟨Nat.le_of_ble_eq_true rfl, Nat.le_of_ble_eq_true rfl⟩) (rd_pre (ci := 2) (q0 := 0) hK hP rfl rfl) rfl rfl hl.1 rfl (lv_room (Nat.le_of_ble_eq_true rfl)) dX2_setConfigs_54 ⟨Nat.le_of_ble_eq_true rfl, Nat.le_of_ble_eq_true rfl⟩) (fun r_3 er_3 => ?_)
          have er_3 : r_3 = (b2i (m_has ((k_takeF cf cv k) k) 7)) := er_3
          subst er_3
          refine lv_if_eq (tgt := 69) hx hb dX2_setConfigs_57 (by decide) (fun c_4 => ?_) (fun c_4 => ?_)
          · rw [b2i_z] at c_4
            refine lv_iload hx hb dX2_setConfigs_69 (lv_at hl 0 rfl) ?_
            refine va_iast hx hb hK hP hD hS 2 1 rfl rfl (vp_in_nI hk8 (by omega)) dX2_setConfigs_71 (fun H locs hP hD hS => ?_)
            have hP : va_P (dC, dI) vwCl [(g0, .inr (2, [.int 0, .ref gm, .long tb, .int (b2i su), .int (b2i mx), .ref gc, .ref gn, .long fr, .long tt])), (gm, .inl (cL, 8192, .inr (.inl w))), (gc, .inl (cI, 8, .inl (upd (k_takeF cf cv k) k ((Int64.toInt32 (k_ush cv (8 * (nI k)))) &&& 159)))), (gn, .inl (cL, 8, .inr (.inl nu)))] H := by have h9 := hP; simp only [List.set] at h9; rw [nI_clamp (show k < 2 ^ 31 by omega)] at h9; exact h9
            have hD : va_D A [(g0, .inr (2, [.int 0, .ref gm, .long tb, .int (b2i su), .int (b2i mx), .ref gc, .ref gn, .long fr, .long tt])), (gm, .inl (cL, 8192, .inr (.inl w))), (gc, .inl (cI, 8, .inl (upd (k_takeF cf cv k) k ((Int64.toInt32 (k_ush cv (8 * (nI k)))) &&& 159)))), (gn, .inl (cL, 8, .inr (.inl nu)))] := by have h9 := hD; simp only [List.set] at h9; rw [nI_clamp (show k < 2 ^ 31 by omega)] at h9; exact h9
            refine lv_iinc (v := ((nI k) + 1)) (lv' := [(3, .int ((nI k) + 1)), (4, .int ((Int64.toInt32 (k_ush cv (8 * (nI k)))) &&& 159)), (0, .ref g0), (1, .long cv)]) hx hb dX2_setConfigs_72 hl (k := 3) rfl rfl (by decide) rfl (fun ls hl => ?_)
            refine lv_goto (tgt := 7) hx hb dX2_setConfigs_75 (by decide) ?_
            rw [← nI_succ] at hl
            have e9 : k_takeF cf cv (k + 1) = (upd (k_takeF cf cv k) k ((Int64.toInt32 (k_ush cv (8 * (nI k)))) &&& 159)) := by rw [m_take_step hc hk8]; simp [m_legal, c_1, c_2, c_4]
            exact ih (k + 1) ls _ _ (by omega) (by omega) (by rw [e9]; exact hP) (by rw [e9]; exact hD) hS (lv_sub hl [2, 3, 0] rfl)
          · rw [b2i_z] at c_4
            rw [Bool.not_eq_false] at c_4
            refine lv_aload_n hx hb dX2_setConfigs_60 rfl (lv_at hl 1 rfl) ?_
            refine va_get (D := (dC, dI)) (ci := 2) (v := .ref gc) (C := RX2) (T := TX2) (N := 9) hx hb hts iwX2 hown hK hP 0 rfl rfl 5 (by decide) (hts (.fieldLink RX2 13 RX2 "configs" "[I") (wa 360 (by decide +kernel) rfl)) (fun _ h9 => h9) rfl dX2_setConfigs_61 ?_
            refine lv_iload_n hx hb dX2_setConfigs_64 rfl (lv_at hl 3 rfl) ?_
            refine va_iald hx hb hK hP 2 1 rfl rfl (vp_in_nI hk8 (by omega)) dX2_setConfigs_65 ?_
            rw [nI_clamp (show k < 2 ^ 31 by omega)]
            refine lv_goto (tgt := 71) hx hb dX2_setConfigs_66 (by decide) ?_
            refine va_iast hx hb hK hP hD hS 2 1 rfl rfl (vp_in_nI hk8 (by omega)) dX2_setConfigs_71 (fun H locs hP hD hS => ?_)
            have hP : va_P (dC, dI) vwCl [(g0, .inr (2, [.int 0, .ref gm, .long tb, .int (b2i su), .int (b2i mx), .ref gc, .ref gn, .long fr, .long tt])), (gm, .inl (cL, 8192, .inr (.inl w))), (gc, .inl (cI, 8, .inl (upd (k_takeF cf cv k) k ((k_takeF cf cv k) k)))), (gn, .inl (cL, 8, .inr (.inl nu)))] H := by have h9 := hP; simp only [List.set] at h9; rw [nI_clamp (show k < 2 ^ 31 by omega)] at h9; exact h9
            have hD : va_D A [(g0, .inr (2, [.int 0, .ref gm, .long tb, .int (b2i su), .int (b2i mx), .ref gc, .ref gn, .long fr, .long tt])), (gm, .inl (cL, 8192, .inr (.inl w))), (gc, .inl (cI, 8, .inl (upd (k_takeF cf cv k) k ((k_takeF cf cv k) k)))), (gn, .inl (cL, 8, .inr (.inl nu)))] := by have h9 := hD; simp only [List.set] at h9; rw [nI_clamp (show k < 2 ^ 31 by omega)] at h9; exact h9
            refine lv_iinc (v := ((nI k) + 1)) (lv' := [(3, .int ((nI k) + 1)), (4, .int ((Int64.toInt32 (k_ush cv (8 * (nI k)))) &&& 159)), (0, .ref g0), (1, .long cv)]) hx hb dX2_setConfigs_72 hl (k := 3) rfl rfl (by decide) rfl (fun ls hl => ?_)
            refine lv_goto (tgt := 7) hx hb dX2_setConfigs_75 (by decide) ?_
            rw [← nI_succ] at hl
            have e9 : k_takeF cf cv (k + 1) = (upd (k_takeF cf cv k) k ((k_takeF cf cv k) k)) := by rw [m_take_step hc hk8]; simp [m_legal, c_1, c_2, c_4]
            exact ih (k + 1) ls _ _ (by omega) (by omega) (by rw [e9]; exact hP) (by rw [e9]; exact hD) hS (lv_sub hl [2, 3, 0] rfl)
        · refine lv_iload hx hb dX2_setConfigs_34 (lv_at hl 0 rfl) ?_
          refine lv_iconst (v := 2) hx hb dX2_setConfigs_36 (by decide) ?_
          refine lv_isub hx hb dX2_setConfigs_37 ?_
          refine lv_goto (tgt := 43) hx hb dX2_setConfigs_38 (by decide) ?_
          refine lv_istore (lv' := [(4, .int (((Int64.toInt32 (k_ush cv (8 * (nI k)))) &&& 159) - 2)), (0, .ref g0), (1, .long cv), (3, .int (nI k))]) hx hb dX2_setConfigs_43 hl (by decide) rfl (fun ls hl => ?_)
          refine lv_aload_n hx hb dX2_setConfigs_45 rfl (lv_at hl 1 rfl) ?_
          refine va_get (D := (dC, dI)) (ci := 2) (v := .ref gc) (C := RX2) (T := TX2) (N := 9) hx hb hts iwX2 hown hK hP 0 rfl rfl 5 (by decide) (hts (.fieldLink RX2 13 RX2 "configs" "[I") (wa 360 (by decide +kernel) rfl)) (fun _ h9 => h9) rfl dX2_setConfigs_46 ?_
          refine lv_iload_n hx hb dX2_setConfigs_49 rfl (lv_at hl 3 rfl) ?_
          refine lv_aload_n hx hb dX2_setConfigs_50 rfl (lv_at hl 1 rfl) ?_
          refine lv_iload_n hx hb dX2_setConfigs_51 rfl (lv_at hl 3 rfl) ?_
          refine lv_bipush (v := 7) hx hb dX2_setConfigs_52 (by decide) ?_
          refine vp_callSi (W.runV (As := [.int (nI k), .int 7]) (rest := [.int (nI k), .ref gc]) ⟨hx, hb, hml, hown, hts⟩ (mtX2_has l dC dI cL cI g0 gm gc gn 0 w tb su mx (k_takeF cf cv k) nu fr tt k 7 (hk8)) (cwV 2 hts (gAll (mc1 (wa 429 (by decide +kernel) rfl) (mc1 (wa 431 (by decide +kernel) rfl) (mc1 (wa 7 (by decide +kernel) rfl) (mc1 (wa 17 (by decide +kernel) rfl) mc0)))) (wa 432 (by decide +kernel) rfl) (by decide +kernel)) rfl rfl rfl (by decide +kernel) ⟨Nat.le_of_ble_eq_true rfl, Nat.le_of_ble_eq_true rfl⟩) (rd_pre (ci := 2) (q0 := 0) hK hP rfl rfl) rfl rfl hl.1 rfl (lv_room (Nat.le_of_ble_eq_true rfl)) dX2_setConfigs_54 ⟨Nat.le_of_ble_eq_true rfl, Nat.le_of_ble_eq_true rfl⟩) (fun r_5 er_5 => ?_)
          have er_5 : r_5 = (b2i (m_has ((k_takeF cf cv k) k) 7)) := er_5
          subst er_5
          refine lv_if_eq (tgt := 69) hx hb dX2_setConfigs_57 (by decide) (fun c_6 => ?_) (fun c_6 => ?_)
          · rw [b2i_z] at c_6
            refine lv_iload hx hb dX2_setConfigs_69 (lv_at hl 0 rfl) ?_
            refine va_iast hx hb hK hP hD hS 2 1 rfl rfl (vp_in_nI hk8 (by omega)) dX2_setConfigs_71 (fun H locs hP hD hS => ?_)
            have hP : va_P (dC, dI) vwCl [(g0, .inr (2, [.int 0, .ref gm, .long tb, .int (b2i su), .int (b2i mx), .ref gc, .ref gn, .long fr, .long tt])), (gm, .inl (cL, 8192, .inr (.inl w))), (gc, .inl (cI, 8, .inl (upd (k_takeF cf cv k) k (((Int64.toInt32 (k_ush cv (8 * (nI k)))) &&& 159) - 2)))), (gn, .inl (cL, 8, .inr (.inl nu)))] H := by have h9 := hP; simp only [List.set] at h9; rw [nI_clamp (show k < 2 ^ 31 by omega)] at h9; exact h9
            have hD : va_D A [(g0, .inr (2, [.int 0, .ref gm, .long tb, .int (b2i su), .int (b2i mx), .ref gc, .ref gn, .long fr, .long tt])), (gm, .inl (cL, 8192, .inr (.inl w))), (gc, .inl (cI, 8, .inl (upd (k_takeF cf cv k) k (((Int64.toInt32 (k_ush cv (8 * (nI k)))) &&& 159) - 2)))), (gn, .inl (cL, 8, .inr (.inl nu)))] := by have h9 := hD; simp only [List.set] at h9; rw [nI_clamp (show k < 2 ^ 31 by omega)] at h9; exact h9
            refine lv_iinc (v := ((nI k) + 1)) (lv' := [(3, .int ((nI k) + 1)), (4, .int (((Int64.toInt32 (k_ush cv (8 * (nI k)))) &&& 159) - 2)), (0, .ref g0), (1, .long cv)]) hx hb dX2_setConfigs_72 hl (k := 3) rfl rfl (by decide) rfl (fun ls hl => ?_)
            refine lv_goto (tgt := 7) hx hb dX2_setConfigs_75 (by decide) ?_
            rw [← nI_succ] at hl
            have e9 : k_takeF cf cv (k + 1) = (upd (k_takeF cf cv k) k (((Int64.toInt32 (k_ush cv (8 * (nI k)))) &&& 159) - 2)) := by rw [m_take_step hc hk8]; simp [m_legal, c_1, c_2, c_6]
            exact ih (k + 1) ls _ _ (by omega) (by omega) (by rw [e9]; exact hP) (by rw [e9]; exact hD) hS (lv_sub hl [2, 3, 0] rfl)
          · rw [b2i_z] at c_6
            rw [Bool.not_eq_false] at c_6
            refine lv_aload_n hx hb dX2_setConfigs_60 rfl (lv_at hl 1 rfl) ?_
            refine va_get (D := (dC, dI)) (ci := 2) (v := .ref gc) (C := RX2) (T := TX2) (N := 9) hx hb hts iwX2 hown hK hP 0 rfl rfl 5 (by decide) (hts (.fieldLink RX2 13 RX2 "configs" "[I") (wa 360 (by decide +kernel) rfl)) (fun _ h9 => h9) rfl dX2_setConfigs_61 ?_
            refine lv_iload_n hx hb dX2_setConfigs_64 rfl (lv_at hl 3 rfl) ?_
            refine va_iald hx hb hK hP 2 1 rfl rfl (vp_in_nI hk8 (by omega)) dX2_setConfigs_65 ?_
            rw [nI_clamp (show k < 2 ^ 31 by omega)]
            refine lv_goto (tgt := 71) hx hb dX2_setConfigs_66 (by decide) ?_
            refine va_iast hx hb hK hP hD hS 2 1 rfl rfl (vp_in_nI hk8 (by omega)) dX2_setConfigs_71 (fun H locs hP hD hS => ?_)
            have hP : va_P (dC, dI) vwCl [(g0, .inr (2, [.int 0, .ref gm, .long tb, .int (b2i su), .int (b2i mx), .ref gc, .ref gn, .long fr, .long tt])), (gm, .inl (cL, 8192, .inr (.inl w))), (gc, .inl (cI, 8, .inl (upd (k_takeF cf cv k) k ((k_takeF cf cv k) k)))), (gn, .inl (cL, 8, .inr (.inl nu)))] H := by have h9 := hP; simp only [List.set] at h9; rw [nI_clamp (show k < 2 ^ 31 by omega)] at h9; exact h9
            have hD : va_D A [(g0, .inr (2, [.int 0, .ref gm, .long tb, .int (b2i su), .int (b2i mx), .ref gc, .ref gn, .long fr, .long tt])), (gm, .inl (cL, 8192, .inr (.inl w))), (gc, .inl (cI, 8, .inl (upd (k_takeF cf cv k) k ((k_takeF cf cv k) k)))), (gn, .inl (cL, 8, .inr (.inl nu)))] := by have h9 := hD; simp only [List.set] at h9; rw [nI_clamp (show k < 2 ^ 31 by omega)] at h9; exact h9
            refine lv_iinc (v := ((nI k) + 1)) (lv' := [(3, .int ((nI k) + 1)), (4, .int (((Int64.toInt32 (k_ush cv (8 * (nI k)))) &&& 159) - 2)), (0, .ref g0), (1, .long cv)]) hx hb dX2_setConfigs_72 hl (k := 3) rfl rfl (by decide) rfl (fun ls hl => ?_)
            refine lv_goto (tgt := 7) hx hb dX2_setConfigs_75 (by decide) ?_
            rw [← nI_succ] at hl
            have e9 : k_takeF cf cv (k + 1) = (upd (k_takeF cf cv k) k ((k_takeF cf cv k) k)) := by rw [m_take_step hc hk8]; simp [m_legal, c_1, c_2, c_6]
            exact ih (k + 1) ls _ _ (by omega) (by omega) (by rw [e9]; exact hP) (by rw [e9]; exact hD) hS (lv_sub hl [2, 3, 0] rfl)
  refine lv_aload_n hx hb dX2_setConfigs_0 rfl (lv_at hl 0 rfl) ?_
  refine lv_iconst (v := 0) hx hb dX2_setConfigs_1 (by decide) ?_
  refine va_put (D := (dC, dI)) (ci := 2) (v := .int 0) (ty := .int) (C := RX2) (T := TX2) (N := 9) hx hb hts iwX2 tyX2 tyX2_ok nmX2 hown hK hP hD hS 0 rfl rfl 0 (by decide) (hts (.fieldLink RX2 20 RX2 "code" "I") (wa 355 (by decide +kernel) rfl)) (fun _ h9 => h9) rfl (by decide +kernel) rfl rfl (Nat.le_of_ble_eq_true rfl) dX2_setConfigs_2 (fun H locs hP hD hS => ?_)
  have hP : va_P (dC, dI) vwCl [(g0, .inr (2, [.int 0, .ref gm, .long tb, .int (b2i su), .int (b2i mx), .ref gc, .ref gn, .long fr, .long tt])), (gm, .inl (cL, 8192, .inr (.inl w))), (gc, .inl (cI, 8, .inl cf)), (gn, .inl (cL, 8, .inr (.inl nu)))] H := hP
  have hD : va_D A [(g0, .inr (2, [.int 0, .ref gm, .long tb, .int (b2i su), .int (b2i mx), .ref gc, .ref gn, .long fr, .long tt])), (gm, .inl (cL, 8192, .inr (.inl w))), (gc, .inl (cI, 8, .inl cf)), (gn, .inl (cL, 8, .inr (.inl nu)))] := hD
  refine lv_iconst (v := 0) hx hb dX2_setConfigs_5 (by decide) ?_
  refine lv_istore_n (lv' := [(3, .int 0), (0, .ref g0), (1, .long cv)]) hx hb dX2_setConfigs_6 rfl hl (by decide) rfl (fun ls hl => ?_)
  exact loop 9 0 ls _ _ (by omega) (by omega) hP hD hS (lv_sub hl [1, 2, 0] rfl)
set_option maxHeartbeats 4000000 in
set_option maxRecDepth 100000 in
theorem mtX2_number (l : Launch) (dC : Nat → ClassId) (dI : Nat → Nat → Nat) (cL : ClassId) (cI : ClassId) (g0 : Nat) (gm : Nat) (gc : Nat) (gn : Nat) (cd : Int32) (w : Nat → Int64) (tb : Int64) (su : Bool) (mx : Bool) (cf : Nat → Int32) (nu : Nat → Int64) (fr : Int64) (tt : Int64) (hz : Nat) (j : Nat) (hj : j < 8) : Met l yX2_number wsX2_number ({ frames := 0, cells := 0, slots := 0, locals := 0 }) (va_Pc [.ref g0, .int (nI j)] (fun U => U.heap.size = hz ∧ va_P (dC, dI) vwCl (wMD cL cI g0 gm gc gn cd w tb su mx cf nu fr tt) U.heap ∧ va_K (dC, dI) vwCl [(cL, .long), (cI, .int)] U ∧ va_D (fun _ => True) (wMD cL cI g0 gm gc gn cd w tb su mx cf nu fr tt))) (va_Ql (fun r (_ : Unit) => r = (nu j)) (fun _ t => va_P (dC, dI) vwCl (wMD cL cI g0 gm gc gn 0 w tb su mx cf nu fr tt) t.heap ∧ va_K (dC, dI) vwCl [(cL, .long), (cI, .int)] t ∧ va_D (va_A (wMD cL cI g0 gm gc gn cd w tb su mx cf nu fr tt) hz) (wMD cL cI g0 gm gc gn 0 w tb su mx cf nu fr tt)) (va_A (wMD cL cI g0 gm gc gn cd w tb su mx cf nu fr tt) hz)) 0 0 (va_A (wMD cL cI g0 gm gc gn cd w tb su mx cf nu fr tt) hz) := by
  refine Met.ofW (cc := cX2_number) (maxL := 2) (ret := (some .long)) (by decide) rfl ?_
  intro p e s m args below meth c s₁ B hml hv
  obtain ⟨rfl, hsz, hP, hK, hD0⟩ := hv
  have hx := B.exec
  have hb := B.bytes
  have hr := B.returns
  have hts := atoms_spec (ws := wsX2_number) B.pre
  have hown : s.vm.findClass RX2 = some m.cls := findClass_of_methodNamed B.named
  have hlocks := B.notSynchronized
  subst hsz
  have hD := hD0.self (sz := s.heap.size)
  generalize hAe : va_A (wMD cL cI g0 gm gc gn cd w tb su mx cf nu fr tt) s.heap.size = A at hD ⊢
  have hA : ∀ q : Nat, s.heap.size ≤ q → A q := fun q h => by rw [← hAe]; exact Or.inr h
  have hS : va_S A s.heap s.heap [] := va_S.rf
  have hP : va_P (dC, dI) vwCl [(g0, .inr (2, [.int cd, .ref gm, .long tb, .int (b2i su), .int (b2i mx), .ref gc, .ref gn, .long fr, .long tt])), (gm, .inl (cL, 8192, .inr (.inl w))), (gc, .inl (cI, 8, .inl cf)), (gn, .inl (cL, 8, .inr (.inl nu)))] s.heap := hP
  have hD : va_D A [(g0, .inr (2, [.int cd, .ref gm, .long tb, .int (b2i su), .int (b2i mx), .ref gc, .ref gn, .long fr, .long tt])), (gm, .inl (cL, 8192, .inr (.inl w))), (gc, .inl (cI, 8, .inl cf)), (gn, .inl (cL, 8, .inr (.inl nu)))] := hD
  have hl := lv_entry ([.ref g0, .int (nI j)]) (n := 2) (Nat.le_of_ble_eq_true rfl)
  rw [lg_entry_eq]
  generalize (lg_sl ([.ref g0, .int (nI j)]) ++ List.replicate (2 - (lg_sl ([.ref g0, .int (nI j)])).length) Slot.unset).toArray = ls at hl ⊢
  have hl : lv_has ls 2 [(0, .ref g0), (1, .int (nI j))] := hl
  refine lv_aload_n hx hb dX2_number_0 rfl (lv_at hl 0 rfl) ?_
  refine lv_iload_n hx hb dX2_number_1 rfl (lv_at hl 1 rfl) ?_
  refine lv_if_lt (tgt := 11) hx hb dX2_number_2 (by decide) (fun c_1 => ?_) (fun c_1 => ?_)
  · exact absurd c_1 (nI_pos (by omega))
  · refine lv_iload_n hx hb dX2_number_5 rfl (lv_at hl 1 rfl) ?_
    refine lv_bipush (v := 7) hx hb dX2_number_6 (by decide) ?_
    refine lv_icmp_le (tgt := 15) hx hb dX2_number_8 (by decide) (fun c_2 => ?_) (fun c_2 => ?_)
    · refine lv_iconst (v := 0) hx hb dX2_number_15 (by decide) ?_
      refine va_put (D := (dC, dI)) (ci := 2) (v := .int 0) (ty := .int) (C := RX2) (T := TX2) (N := 9) hx hb hts iwX2 tyX2 tyX2_ok nmX2 hown hK hP hD hS 0 rfl rfl 0 (by decide) (hts (.fieldLink RX2 20 RX2 "code" "I") (wa 355 (by decide +kernel) rfl)) (fun _ h9 => h9) rfl (by decide +kernel) rfl rfl (Nat.le_of_ble_eq_true rfl) dX2_number_16 (fun H locs hP hD hS => ?_)
      have hP : va_P (dC, dI) vwCl [(g0, .inr (2, [.int 0, .ref gm, .long tb, .int (b2i su), .int (b2i mx), .ref gc, .ref gn, .long fr, .long tt])), (gm, .inl (cL, 8192, .inr (.inl w))), (gc, .inl (cI, 8, .inl cf)), (gn, .inl (cL, 8, .inr (.inl nu)))] H := hP
      have hD : va_D A [(g0, .inr (2, [.int 0, .ref gm, .long tb, .int (b2i su), .int (b2i mx), .ref gc, .ref gn, .long fr, .long tt])), (gm, .inl (cL, 8192, .inr (.inl w))), (gc, .inl (cI, 8, .inl cf)), (gn, .inl (cL, 8, .inr (.inl nu)))] := hD
      refine lv_aload_n hx hb dX2_number_19 rfl (lv_at hl 0 rfl) ?_
      refine va_get (D := (dC, dI)) (ci := 2) (v := .int 0) (C := RX2) (T := TX2) (N := 9) hx hb hts iwX2 hown hK hP 0 rfl rfl 0 (by decide) (hts (.fieldLink RX2 20 RX2 "code" "I") (wa 355 (by decide +kernel) rfl)) (fun _ h9 => h9) rfl dX2_number_20 ?_
      refine lv_if_le (tgt := 30) hx hb dX2_number_23 (by decide) (fun c_3 => ?_) (fun c_3 => ?_)
      · refine lv_aload_n hx hb dX2_number_30 rfl (lv_at hl 0 rfl) ?_
        refine va_get (D := (dC, dI)) (ci := 2) (v := .ref gn) (C := RX2) (T := TX2) (N := 9) hx hb hts iwX2 hown hK hP 0 rfl rfl 6 (by decide) (hts (.fieldLink RX2 17 RX2 "numbers" "[J") (wa 361 (by decide +kernel) rfl)) (fun _ h9 => h9) rfl dX2_number_31 ?_
        refine lv_iload_n hx hb dX2_number_34 rfl (lv_at hl 1 rfl) ?_
        refine va_lald hx hb hK hP 3 0 rfl rfl (vp_in_nI hj (by omega)) dX2_number_35 ?_
        rw [nI_clamp (show j < 2 ^ 31 by omega)]
        have hP9 : va_P (dC, dI) vwCl (wMD cL cI g0 gm gc gn 0 w tb su mx cf nu fr tt) H := hP
        have hD9 : va_D A (wMD cL cI g0 gm gc gn 0 w tb su mx cf nu fr tt) := hD
        exact W.lret (v := (nu j)) hx hb hr (fun t ht hW => ⟨⟨(nu j), (), rfl, (by first | rfl | (simp only [c_1, c_2, b2i, decide_true, decide_false, Bool.not_true, Bool.not_false, Bool.and_true, Bool.and_false, Bool.true_and, Bool.false_and, Bool.or_true, Bool.or_false, Bool.true_or, Bool.false_or, reduceIte, or_true, true_or, or_false, false_or, and_true, true_and, and_false, false_and, not_true_eq_false, not_false_eq_true, Bool.false_eq_true, eq_self]; done) | (simp [c_1, c_2]; done)), (by rw [ht]; exact hP9), va_K.moved hW.alike hK, hD9⟩, hS.F ht⟩) hS.2.2 dX2_number_36
      · first | exact absurd c_3 (by decide) | exact absurd (by decide) c_3
    · exact absurd (nI_le (show j ≤ 7 by omega) (by omega)) c_2
set_option maxHeartbeats 4000000 in
set_option maxRecDepth 100000 in
theorem mtX2_number_no (l : Launch) (dC : Nat → ClassId) (dI : Nat → Nat → Nat) (cL : ClassId) (cI : ClassId) (g0 : Nat) (gm : Nat) (gc : Nat) (gn : Nat) (cd : Int32) (w : Nat → Int64) (tb : Int64) (su : Bool) (mx : Bool) (cf : Nat → Int32) (nu : Nat → Int64) (fr : Int64) (tt : Int64) (hz : Nat) (i : Int32) (hi : ¬ (¬ i < 0 ∧ i ≤ 7)) : Met l yX2_number wsX2_number ({ frames := 0, cells := 0, slots := 0, locals := 0 }) (va_Pc [.ref g0, .int i] (fun U => U.heap.size = hz ∧ va_P (dC, dI) vwCl (wMD cL cI g0 gm gc gn cd w tb su mx cf nu fr tt) U.heap ∧ va_K (dC, dI) vwCl [(cL, .long), (cI, .int)] U ∧ va_D (fun _ => True) (wMD cL cI g0 gm gc gn cd w tb su mx cf nu fr tt))) (va_Ql (fun r (_ : Unit) => r = 0) (fun _ t => va_P (dC, dI) vwCl (wMD cL cI g0 gm gc gn 1 w tb su mx cf nu fr tt) t.heap ∧ va_K (dC, dI) vwCl [(cL, .long), (cI, .int)] t ∧ va_D (va_A (wMD cL cI g0 gm gc gn cd w tb su mx cf nu fr tt) hz) (wMD cL cI g0 gm gc gn 1 w tb su mx cf nu fr tt)) (va_A (wMD cL cI g0 gm gc gn cd w tb su mx cf nu fr tt) hz)) 0 0 (va_A (wMD cL cI g0 gm gc gn cd w tb su mx cf nu fr tt) hz) := by
  refine Met.ofW (cc := cX2_number) (maxL := 2) (ret := (some .long)) (by decide) rfl ?_
  intro p e s m args below meth c s₁ B hml hv
  obtain ⟨rfl, hsz, hP, hK, hD0⟩ := hv
  have hx := B.exec
  have hb := B.bytes
  have hr := B.returns
  have hts := atoms_spec (ws := wsX2_number) B.pre
  have hown : s.vm.findClass RX2 = some m.cls := findClass_of_methodNamed B.named
  have hlocks := B.notSynchronized
  subst hsz
  have hD := hD0.self (sz := s.heap.size)
  generalize hAe : va_A (wMD cL cI g0 gm gc gn cd w tb su mx cf nu fr tt) s.heap.size = A at hD ⊢
  have hA : ∀ q : Nat, s.heap.size ≤ q → A q := fun q h => by rw [← hAe]; exact Or.inr h
  have hS : va_S A s.heap s.heap [] := va_S.rf
  have hP : va_P (dC, dI) vwCl [(g0, .inr (2, [.int cd, .ref gm, .long tb, .int (b2i su), .int (b2i mx), .ref gc, .ref gn, .long fr, .long tt])), (gm, .inl (cL, 8192, .inr (.inl w))), (gc, .inl (cI, 8, .inl cf)), (gn, .inl (cL, 8, .inr (.inl nu)))] s.heap := hP
  have hD : va_D A [(g0, .inr (2, [.int cd, .ref gm, .long tb, .int (b2i su), .int (b2i mx), .ref gc, .ref gn, .long fr, .long tt])), (gm, .inl (cL, 8192, .inr (.inl w))), (gc, .inl (cI, 8, .inl cf)), (gn, .inl (cL, 8, .inr (.inl nu)))] := hD
  have hl := lv_entry ([.ref g0, .int i]) (n := 2) (Nat.le_of_ble_eq_true rfl)
  rw [lg_entry_eq]
  generalize (lg_sl ([.ref g0, .int i]) ++ List.replicate (2 - (lg_sl ([.ref g0, .int i])).length) Slot.unset).toArray = ls at hl ⊢
  have hl : lv_has ls 2 [(0, .ref g0), (1, .int i)] := hl
  refine lv_aload_n hx hb dX2_number_0 rfl (lv_at hl 0 rfl) ?_
  refine lv_iload_n hx hb dX2_number_1 rfl (lv_at hl 1 rfl) ?_
  refine lv_if_lt (tgt := 11) hx hb dX2_number_2 (by decide) (fun c_1 => ?_) (fun c_1 => ?_)
  · refine lv_iconst (v := 1) hx hb dX2_number_11 (by decide) ?_
    refine lv_goto (tgt := 16) hx hb dX2_number_12 (by decide) ?_
    refine va_put (D := (dC, dI)) (ci := 2) (v := .int 1) (ty := .int) (C := RX2) (T := TX2) (N := 9) hx hb hts iwX2 tyX2 tyX2_ok nmX2 hown hK hP hD hS 0 rfl rfl 0 (by decide) (hts (.fieldLink RX2 20 RX2 "code" "I") (wa 355 (by decide +kernel) rfl)) (fun _ h9 => h9) rfl (by decide +kernel) rfl rfl (Nat.le_of_ble_eq_true rfl) dX2_number_16 (fun H locs hP hD hS => ?_)
    have hP : va_P (dC, dI) vwCl [(g0, .inr (2, [.int 1, .ref gm, .long tb, .int (b2i su), .int (b2i mx), .ref gc, .ref gn, .long fr, .long tt])), (gm, .inl (cL, 8192, .inr (.inl w))), (gc, .inl (cI, 8, .inl cf)), (gn, .inl (cL, 8, .inr (.inl nu)))] H := hP
    have hD : va_D A [(g0, .inr (2, [.int 1, .ref gm, .long tb, .int (b2i su), .int (b2i mx), .ref gc, .ref gn, .long fr, .long tt])), (gm, .inl (cL, 8192, .inr (.inl w))), (gc, .inl (cI, 8, .inl cf)), (gn, .inl (cL, 8, .inr (.inl nu)))] := hD
    refine lv_aload_n hx hb dX2_number_19 rfl (lv_at hl 0 rfl) ?_
    refine va_get (D := (dC, dI)) (ci := 2) (v := .int 1) (C := RX2) (T := TX2) (N := 9) hx hb hts iwX2 hown hK hP 0 rfl rfl 0 (by decide) (hts (.fieldLink RX2 20 RX2 "code" "I") (wa 355 (by decide +kernel) rfl)) (fun _ h9 => h9) rfl dX2_number_20 ?_
    refine lv_if_le (tgt := 30) hx hb dX2_number_23 (by decide) (fun c_2 => ?_) (fun c_2 => ?_)
    · first | exact absurd c_2 (by decide) | exact absurd (by decide) c_2
    · refine lv_lconst (v := 0) hx hb dX2_number_26 (by decide) ?_
      refine lv_goto (tgt := 36) hx hb dX2_number_27 (by decide) ?_
      have hP9 : va_P (dC, dI) vwCl (wMD cL cI g0 gm gc gn 1 w tb su mx cf nu fr tt) H := hP
      have hD9 : va_D A (wMD cL cI g0 gm gc gn 1 w tb su mx cf nu fr tt) := hD
      exact W.lret (v := 0) hx hb hr (fun t ht hW => ⟨⟨0, (), rfl, (by first | rfl | (simp only [c_1, b2i, decide_true, decide_false, Bool.not_true, Bool.not_false, Bool.and_true, Bool.and_false, Bool.true_and, Bool.false_and, Bool.or_true, Bool.or_false, Bool.true_or, Bool.false_or, reduceIte, or_true, true_or, or_false, false_or, and_true, true_and, and_false, false_and, not_true_eq_false, not_false_eq_true, Bool.false_eq_true, eq_self]; done) | (simp [c_1]; done)), (by rw [ht]; exact hP9), va_K.moved hW.alike hK, hD9⟩, hS.F ht⟩) hS.2.2 dX2_number_36
  · refine lv_iload_n hx hb dX2_number_5 rfl (lv_at hl 1 rfl) ?_
    refine lv_bipush (v := 7) hx hb dX2_number_6 (by decide) ?_
    refine lv_icmp_le (tgt := 15) hx hb dX2_number_8 (by decide) (fun c_3 => ?_) (fun c_3 => ?_)
    · exact absurd ⟨c_1, c_3⟩ hi
    · refine lv_iconst (v := 1) hx hb dX2_number_11 (by decide) ?_
      refine lv_goto (tgt := 16) hx hb dX2_number_12 (by decide) ?_
      refine va_put (D := (dC, dI)) (ci := 2) (v := .int 1) (ty := .int) (C := RX2) (T := TX2) (N := 9) hx hb hts iwX2 tyX2 tyX2_ok nmX2 hown hK hP hD hS 0 rfl rfl 0 (by decide) (hts (.fieldLink RX2 20 RX2 "code" "I") (wa 355 (by decide +kernel) rfl)) (fun _ h9 => h9) rfl (by decide +kernel) rfl rfl (Nat.le_of_ble_eq_true rfl) dX2_number_16 (fun H locs hP hD hS => ?_)
      have hP : va_P (dC, dI) vwCl [(g0, .inr (2, [.int 1, .ref gm, .long tb, .int (b2i su), .int (b2i mx), .ref gc, .ref gn, .long fr, .long tt])), (gm, .inl (cL, 8192, .inr (.inl w))), (gc, .inl (cI, 8, .inl cf)), (gn, .inl (cL, 8, .inr (.inl nu)))] H := hP
      have hD : va_D A [(g0, .inr (2, [.int 1, .ref gm, .long tb, .int (b2i su), .int (b2i mx), .ref gc, .ref gn, .long fr, .long tt])), (gm, .inl (cL, 8192, .inr (.inl w))), (gc, .inl (cI, 8, .inl cf)), (gn, .inl (cL, 8, .inr (.inl nu)))] := hD
      refine lv_aload_n hx hb dX2_number_19 rfl (lv_at hl 0 rfl) ?_
      refine va_get (D := (dC, dI)) (ci := 2) (v := .int 1) (C := RX2) (T := TX2) (N := 9) hx hb hts iwX2 hown hK hP 0 rfl rfl 0 (by decide) (hts (.fieldLink RX2 20 RX2 "code" "I") (wa 355 (by decide +kernel) rfl)) (fun _ h9 => h9) rfl dX2_number_20 ?_
      refine lv_if_le (tgt := 30) hx hb dX2_number_23 (by decide) (fun c_4 => ?_) (fun c_4 => ?_)
      · first | exact absurd c_4 (by decide) | exact absurd (by decide) c_4
      · refine lv_lconst (v := 0) hx hb dX2_number_26 (by decide) ?_
        refine lv_goto (tgt := 36) hx hb dX2_number_27 (by decide) ?_
        have hP9 : va_P (dC, dI) vwCl (wMD cL cI g0 gm gc gn 1 w tb su mx cf nu fr tt) H := hP
        have hD9 : va_D A (wMD cL cI g0 gm gc gn 1 w tb su mx cf nu fr tt) := hD
        exact W.lret (v := 0) hx hb hr (fun t ht hW => ⟨⟨0, (), rfl, (by first | rfl | (simp only [c_1, c_3, b2i, decide_true, decide_false, Bool.not_true, Bool.not_false, Bool.and_true, Bool.and_false, Bool.true_and, Bool.false_and, Bool.or_true, Bool.or_false, Bool.true_or, Bool.false_or, reduceIte, or_true, true_or, or_false, false_or, and_true, true_and, and_false, false_and, not_true_eq_false, not_false_eq_true, Bool.false_eq_true, eq_self]; done) | (simp [c_1, c_3]; done)), (by rw [ht]; exact hP9), va_K.moved hW.alike hK, hD9⟩, hS.F ht⟩) hS.2.2 dX2_number_36
set_option maxHeartbeats 4000000 in
set_option maxRecDepth 100000 in
theorem mtX2_setNumber (l : Launch) (dC : Nat → ClassId) (dI : Nat → Nat → Nat) (cL : ClassId) (cI : ClassId) (g0 : Nat) (gm : Nat) (gc : Nat) (gn : Nat) (cd : Int32) (w : Nat → Int64) (tb : Int64) (su : Bool) (mx : Bool) (cf : Nat → Int32) (nu : Nat → Int64) (fr : Int64) (tt : Int64) (hz : Nat) (j : Nat) (v : Int64) (hj : j < 8) (hc : okC cf) : Met l yX2_setNumber wsX2_setNumber ({ frames := 1, cells := 0, slots := 0, locals := 22 }) (va_Pc [.ref g0, .int (nI j), .long v] (fun U => U.heap.size = hz ∧ va_P (dC, dI) vwCl (wMD cL cI g0 gm gc gn cd w tb su mx cf nu fr tt) U.heap ∧ va_K (dC, dI) vwCl [(cL, .long), (cI, .int)] U ∧ va_D (fun _ => True) (wMD cL cI g0 gm gc gn cd w tb su mx cf nu fr tt))) (va_Qv (fun _ : Unit => True) (fun _ t => va_P (dC, dI) vwCl (wMD cL cI g0 gm gc gn 0 w tb su mx cf (k_takeNumber cf nu j v) fr tt) t.heap ∧ va_K (dC, dI) vwCl [(cL, .long), (cI, .int)] t ∧ va_D (va_A (wMD cL cI g0 gm gc gn cd w tb su mx cf nu fr tt) hz) (wMD cL cI g0 gm gc gn 0 w tb su mx cf (k_takeNumber cf nu j v) fr tt)) (va_A (wMD cL cI g0 gm gc gn cd w tb su mx cf nu fr tt) hz)) 0 0 (va_A (wMD cL cI g0 gm gc gn cd w tb su mx cf nu fr tt) hz) := by
  refine Met.ofW (cc := cX2_setNumber) (maxL := 5) (ret := none) (by decide) rfl ?_
  intro p e s m args below meth c s₁ B hml hv
  obtain ⟨rfl, hsz, hP, hK, hD0⟩ := hv
  have hx := B.exec
  have hb := B.bytes
  have hr := B.returns
  have hts := atoms_spec (ws := wsX2_setNumber) B.pre
  have hown : s.vm.findClass RX2 = some m.cls := findClass_of_methodNamed B.named
  have hlocks := B.notSynchronized
  subst hsz
  have hD := hD0.self (sz := s.heap.size)
  generalize hAe : va_A (wMD cL cI g0 gm gc gn cd w tb su mx cf nu fr tt) s.heap.size = A at hD ⊢
  have hA : ∀ q : Nat, s.heap.size ≤ q → A q := fun q h => by rw [← hAe]; exact Or.inr h
  have hS : va_S A s.heap s.heap [] := va_S.rf
  have hP : va_P (dC, dI) vwCl [(g0, .inr (2, [.int cd, .ref gm, .long tb, .int (b2i su), .int (b2i mx), .ref gc, .ref gn, .long fr, .long tt])), (gm, .inl (cL, 8192, .inr (.inl w))), (gc, .inl (cI, 8, .inl cf)), (gn, .inl (cL, 8, .inr (.inl nu)))] s.heap := hP
  have hD : va_D A [(g0, .inr (2, [.int cd, .ref gm, .long tb, .int (b2i su), .int (b2i mx), .ref gc, .ref gn, .long fr, .long tt])), (gm, .inl (cL, 8192, .inr (.inl w))), (gc, .inl (cI, 8, .inl cf)), (gn, .inl (cL, 8, .inr (.inl nu)))] := hD
  have hl := lv_entry ([.ref g0, .int (nI j), .long v]) (n := 5) (Nat.le_of_ble_eq_true rfl)
  rw [lg_entry_eq]
  generalize (lg_sl ([.ref g0, .int (nI j), .long v]) ++ List.replicate (5 - (lg_sl ([.ref g0, .int (nI j), .long v])).length) Slot.unset).toArray = ls at hl ⊢
  have hl : lv_has ls 5 [(0, .ref g0), (1, .int (nI j)), (2, .long v)] := hl
  refine lv_aload_n hx hb dX2_setNumber_0 rfl (lv_at hl 0 rfl) ?_
  refine lv_iload_n hx hb dX2_setNumber_1 rfl (lv_at hl 1 rfl) ?_
  refine lv_if_lt (tgt := 11) hx hb dX2_setNumber_2 (by decide) (fun c_1 => ?_) (fun c_1 => ?_)
  · exact absurd c_1 (nI_pos (by omega))
  · refine lv_iload_n hx hb dX2_setNumber_5 rfl (lv_at hl 1 rfl) ?_
    refine lv_bipush (v := 7) hx hb dX2_setNumber_6 (by decide) ?_
    refine lv_icmp_le (tgt := 15) hx hb dX2_setNumber_8 (by decide) (fun c_2 => ?_) (fun c_2 => ?_)
    · refine lv_iconst (v := 0) hx hb dX2_setNumber_15 (by decide) ?_
      refine va_put (D := (dC, dI)) (ci := 2) (v := .int 0) (ty := .int) (C := RX2) (T := TX2) (N := 9) hx hb hts iwX2 tyX2 tyX2_ok nmX2 hown hK hP hD hS 0 rfl rfl 0 (by decide) (hts (.fieldLink RX2 20 RX2 "code" "I") (wa 355 (by decide +kernel) rfl)) (fun _ h9 => h9) rfl (by decide +kernel) rfl rfl (Nat.le_of_ble_eq_true rfl) dX2_setNumber_16 (fun H locs hP hD hS => ?_)
      have hP : va_P (dC, dI) vwCl [(g0, .inr (2, [.int 0, .ref gm, .long tb, .int (b2i su), .int (b2i mx), .ref gc, .ref gn, .long fr, .long tt])), (gm, .inl (cL, 8192, .inr (.inl w))), (gc, .inl (cI, 8, .inl cf)), (gn, .inl (cL, 8, .inr (.inl nu)))] H := hP
      have hD : va_D A [(g0, .inr (2, [.int 0, .ref gm, .long tb, .int (b2i su), .int (b2i mx), .ref gc, .ref gn, .long fr, .long tt])), (gm, .inl (cL, 8192, .inr (.inl w))), (gc, .inl (cI, 8, .inl cf)), (gn, .inl (cL, 8, .inr (.inl nu)))] := hD
      refine lv_aload_n hx hb dX2_setNumber_19 rfl (lv_at hl 0 rfl) ?_
      refine va_get (D := (dC, dI)) (ci := 2) (v := .int 0) (C := RX2) (T := TX2) (N := 9) hx hb hts iwX2 hown hK hP 0 rfl rfl 0 (by decide) (hts (.fieldLink RX2 20 RX2 "code" "I") (wa 355 (by decide +kernel) rfl)) (fun _ h9 => h9) rfl dX2_setNumber_20 ?_
      refine lv_if_le (tgt := 27) hx hb dX2_setNumber_23 (by decide) (fun c_3 => ?_) (fun c_3 => ?_)
      · refine lv_aload_n hx hb dX2_setNumber_27 rfl (lv_at hl 0 rfl) ?_
        refine lv_iload_n hx hb dX2_setNumber_28 rfl (lv_at hl 1 rfl) ?_
        refine lv_bipush (v := 7) hx hb dX2_setNumber_29 (by decide) ?_
        refine vp_callSi (W.runV (As := [.int (nI j), .int 7]) (rest := []) ⟨hx, hb, hml, hown, hts⟩ (mtX2_has l dC dI cL cI g0 gm gc gn 0 w tb su mx cf nu fr tt j 7 (hj)) (cwV 2 hts (gAll (mc1 (wa 429 (by decide +kernel) rfl) (mc1 (wa 431 (by decide +kernel) rfl) (mc1 (wa 7 (by decide +kernel) rfl) (mc1 (wa 17 (by decide +kernel) rfl) mc0)))) (wa 432 (by decide +kernel) rfl) (by decide +kernel)) rfl rfl rfl (by decide +kernel) ⟨Nat.le_of_ble_eq_true rfl, Nat.le_of_ble_eq_true rfl⟩) (rd_pre (ci := 2) (q0 := 0) hK hP rfl rfl) rfl rfl hl.1 rfl (lv_room (Nat.le_of_ble_eq_true rfl)) dX2_setNumber_31 ⟨Nat.le_of_ble_eq_true rfl, Nat.le_of_ble_eq_true rfl⟩) (fun r_4 er_4 => ?_)
        have er_4 : r_4 = (b2i (m_has (cf j) 7)) := er_4
        subst er_4
        refine lv_if_ne (tgt := 66) hx hb dX2_setNumber_34 (by decide) (fun c_5 => ?_) (fun c_5 => ?_)
        · rw [b2i_z] at c_5
          rw [Bool.not_eq_false] at c_5
          have n7 : True := trivial
          refine lv_iconst (v := 1) hx hb dX2_setNumber_66 (by decide) ?_
          refine lv_goto (tgt := 71) hx hb dX2_setNumber_67 (by decide) ?_
          refine lv_istore (lv' := [(4, .int 1), (0, .ref g0), (1, .int (nI j)), (2, .long v)]) hx hb dX2_setNumber_71 hl (by decide) rfl (fun ls hl => ?_)
          refine lv_aload_n hx hb dX2_setNumber_73 rfl (lv_at hl 1 rfl) ?_
          refine va_get (D := (dC, dI)) (ci := 2) (v := .ref gn) (C := RX2) (T := TX2) (N := 9) hx hb hts iwX2 hown hK hP 0 rfl rfl 6 (by decide) (hts (.fieldLink RX2 17 RX2 "numbers" "[J") (wa 361 (by decide +kernel) rfl)) (fun _ h9 => h9) rfl dX2_setNumber_74 ?_
          refine lv_iload_n hx hb dX2_setNumber_77 rfl (lv_at hl 2 rfl) ?_
          refine lv_iload hx hb dX2_setNumber_78 (lv_at hl 0 rfl) ?_
          refine lv_if_eq (tgt := 92) hx hb dX2_setNumber_80 (by decide) (fun c_6 => ?_) (fun c_6 => ?_)
          · first | exact absurd c_6 (by decide) | exact absurd (by decide) c_6
          · refine lv_aload_n hx hb dX2_setNumber_83 rfl (lv_at hl 1 rfl) ?_
            refine va_get (D := (dC, dI)) (ci := 2) (v := .ref gn) (C := RX2) (T := TX2) (N := 9) hx hb hts iwX2 hown hK hP 0 rfl rfl 6 (by decide) (hts (.fieldLink RX2 17 RX2 "numbers" "[J") (wa 361 (by decide +kernel) rfl)) (fun _ h9 => h9) rfl dX2_setNumber_84 ?_
            refine lv_iload_n hx hb dX2_setNumber_87 rfl (lv_at hl 2 rfl) ?_
            refine va_lald hx hb hK hP 3 0 rfl rfl (vp_in_nI hj (by omega)) dX2_setNumber_88 ?_
            rw [nI_clamp (show j < 2 ^ 31 by omega)]
            refine lv_goto (tgt := 97) hx hb dX2_setNumber_89 (by decide) ?_
            refine va_last hx hb hK hP hD hS 3 0 rfl rfl (vp_in_nI hj (by omega)) dX2_setNumber_97 (fun H locs hP hD hS => ?_)
            have hP : va_P (dC, dI) vwCl [(g0, .inr (2, [.int 0, .ref gm, .long tb, .int (b2i su), .int (b2i mx), .ref gc, .ref gn, .long fr, .long tt])), (gm, .inl (cL, 8192, .inr (.inl w))), (gc, .inl (cI, 8, .inl cf)), (gn, .inl (cL, 8, .inr (.inl (vp_updL nu j (nu j)))))] H := by have h9 := hP; simp only [List.set] at h9; rw [nI_clamp (show j < 2 ^ 31 by omega)] at h9; exact h9
            have hD : va_D A [(g0, .inr (2, [.int 0, .ref gm, .long tb, .int (b2i su), .int (b2i mx), .ref gc, .ref gn, .long fr, .long tt])), (gm, .inl (cL, 8192, .inr (.inl w))), (gc, .inl (cI, 8, .inl cf)), (gn, .inl (cL, 8, .inr (.inl (vp_updL nu j (nu j)))))] := by have h9 := hD; simp only [List.set] at h9; rw [nI_clamp (show j < 2 ^ 31 by omega)] at h9; exact h9
            have w9_0 : (k_takeNumber cf nu j v) = (vp_updL nu j (nu j)) := (by first | rfl | (simp only [m_takeNumber_eq hc hj, c_1, c_2, c_5, n7, b2i, decide_true, decide_false, Bool.not_true, Bool.not_false, Bool.and_true, Bool.and_false, Bool.true_and, Bool.false_and, Bool.or_true, Bool.or_false, Bool.true_or, Bool.false_or, reduceIte, or_true, true_or, or_false, false_or, and_true, true_and, and_false, false_and, not_true_eq_false, not_false_eq_true, Bool.false_eq_true, eq_self]; done) | (simp [m_takeNumber_eq hc hj, c_1, c_2, c_5, n7]; done))
            have hP9 : va_P (dC, dI) vwCl (wMD cL cI g0 gm gc gn 0 w tb su mx cf (k_takeNumber cf nu j v) fr tt) H := (by rw [w9_0]; exact hP)
            have hD9 : va_D A (wMD cL cI g0 gm gc gn 0 w tb su mx cf (k_takeNumber cf nu j v) fr tt) := (by rw [w9_0]; exact hD)
            exact W.vret hx hb hr (fun t ht hW => ⟨⟨(), rfl, trivial, (by rw [ht]; exact hP9), va_K.moved hW.alike hK, hD9⟩, hS.F ht⟩) hS.2.2 dX2_setNumber_98
        · rw [b2i_z] at c_5
          refine lv_iload_n hx hb dX2_setNumber_37 rfl (lv_at hl 1 rfl) ?_
          refine lv_bipush (v := 7) hx hb dX2_setNumber_38 (by decide) ?_
          refine lv_icmp_ge (tgt := 70) hx hb dX2_setNumber_40 (by decide) (fun c_7 => ?_) (fun c_7 => ?_)
          · have n7 : ¬ j < 7 := j7_no hj c_7
            refine lv_iconst (v := 0) hx hb dX2_setNumber_70 (by decide) ?_
            refine lv_istore (lv' := [(4, .int 0), (0, .ref g0), (1, .int (nI j)), (2, .long v)]) hx hb dX2_setNumber_71 hl (by decide) rfl (fun ls hl => ?_)
            refine lv_aload_n hx hb dX2_setNumber_73 rfl (lv_at hl 1 rfl) ?_
            refine va_get (D := (dC, dI)) (ci := 2) (v := .ref gn) (C := RX2) (T := TX2) (N := 9) hx hb hts iwX2 hown hK hP 0 rfl rfl 6 (by decide) (hts (.fieldLink RX2 17 RX2 "numbers" "[J") (wa 361 (by decide +kernel) rfl)) (fun _ h9 => h9) rfl dX2_setNumber_74 ?_
            refine lv_iload_n hx hb dX2_setNumber_77 rfl (lv_at hl 2 rfl) ?_
            refine lv_iload hx hb dX2_setNumber_78 (lv_at hl 0 rfl) ?_
            refine lv_if_eq (tgt := 92) hx hb dX2_setNumber_80 (by decide) (fun c_8 => ?_) (fun c_8 => ?_)
            · refine lv_lload_n hx hb dX2_setNumber_92 rfl (lv_at hl 3 rfl) ?_
              refine lv_ldc2 (v := 18014398509481983) hx hb hown (hts (.constantLong RX2 65 18014398509481983) (wa 445 (by decide +kernel) rfl)) dX2_setNumber_93 ?_
              refine lv_land hx hb dX2_setNumber_96 ?_
              refine va_last hx hb hK hP hD hS 3 0 rfl rfl (vp_in_nI hj (by omega)) dX2_setNumber_97 (fun H locs hP hD hS => ?_)
              have hP : va_P (dC, dI) vwCl [(g0, .inr (2, [.int 0, .ref gm, .long tb, .int (b2i su), .int (b2i mx), .ref gc, .ref gn, .long fr, .long tt])), (gm, .inl (cL, 8192, .inr (.inl w))), (gc, .inl (cI, 8, .inl cf)), (gn, .inl (cL, 8, .inr (.inl (vp_updL nu j (v &&& 18014398509481983)))))] H := by have h9 := hP; simp only [List.set] at h9; rw [nI_clamp (show j < 2 ^ 31 by omega)] at h9; exact h9
              have hD : va_D A [(g0, .inr (2, [.int 0, .ref gm, .long tb, .int (b2i su), .int (b2i mx), .ref gc, .ref gn, .long fr, .long tt])), (gm, .inl (cL, 8192, .inr (.inl w))), (gc, .inl (cI, 8, .inl cf)), (gn, .inl (cL, 8, .inr (.inl (vp_updL nu j (v &&& 18014398509481983)))))] := by have h9 := hD; simp only [List.set] at h9; rw [nI_clamp (show j < 2 ^ 31 by omega)] at h9; exact h9
              have w9_0 : (k_takeNumber cf nu j v) = (vp_updL nu j (v &&& 18014398509481983)) := (by first | rfl | (simp only [m_takeNumber_eq hc hj, c_1, c_2, c_5, c_7, n7, b2i, decide_true, decide_false, Bool.not_true, Bool.not_false, Bool.and_true, Bool.and_false, Bool.true_and, Bool.false_and, Bool.or_true, Bool.or_false, Bool.true_or, Bool.false_or, reduceIte, or_true, true_or, or_false, false_or, and_true, true_and, and_false, false_and, not_true_eq_false, not_false_eq_true, Bool.false_eq_true, eq_self]; done) | (simp [m_takeNumber_eq hc hj, c_1, c_2, c_5, c_7, n7]; done))
              have hP9 : va_P (dC, dI) vwCl (wMD cL cI g0 gm gc gn 0 w tb su mx cf (k_takeNumber cf nu j v) fr tt) H := (by rw [w9_0]; exact hP)
              have hD9 : va_D A (wMD cL cI g0 gm gc gn 0 w tb su mx cf (k_takeNumber cf nu j v) fr tt) := (by rw [w9_0]; exact hD)
              exact W.vret hx hb hr (fun t ht hW => ⟨⟨(), rfl, trivial, (by rw [ht]; exact hP9), va_K.moved hW.alike hK, hD9⟩, hS.F ht⟩) hS.2.2 dX2_setNumber_98
            · first | exact absurd c_8 (by decide) | exact absurd (by decide) c_8
          · have n7 : j < 7 := j7_yes hj c_7
            refine lv_aload_n hx hb dX2_setNumber_43 rfl (lv_at hl 0 rfl) ?_
            refine lv_iload_n hx hb dX2_setNumber_44 rfl (lv_at hl 1 rfl) ?_
            refine lv_iconst (v := 1) hx hb dX2_setNumber_45 (by decide) ?_
            refine lv_iadd hx hb dX2_setNumber_46 ?_
            rw [nI_1]
            refine lv_bipush (v := 7) hx hb dX2_setNumber_47 (by decide) ?_
            refine vp_callSi (W.runV (As := [.int (nI (j + 1)), .int 7]) (rest := []) ⟨hx, hb, hml, hown, hts⟩ (mtX2_has l dC dI cL cI g0 gm gc gn 0 w tb su mx cf nu fr tt (j + 1) 7 (show j + 1 < 8 by omega)) (cwV 2 hts (gAll (mc1 (wa 429 (by decide +kernel) rfl) (mc1 (wa 431 (by decide +kernel) rfl) (mc1 (wa 7 (by decide +kernel) rfl) (mc1 (wa 17 (by decide +kernel) rfl) mc0)))) (wa 432 (by decide +kernel) rfl) (by decide +kernel)) rfl rfl rfl (by decide +kernel) ⟨Nat.le_of_ble_eq_true rfl, Nat.le_of_ble_eq_true rfl⟩) (rd_pre (ci := 2) (q0 := 0) hK hP rfl rfl) rfl rfl hl.1 rfl (lv_room (Nat.le_of_ble_eq_true rfl)) dX2_setNumber_49 ⟨Nat.le_of_ble_eq_true rfl, Nat.le_of_ble_eq_true rfl⟩) (fun r_9 er_9 => ?_)
            have er_9 : r_9 = (b2i (m_has (cf (j + 1)) 7)) := er_9
            subst er_9
            refine lv_if_eq (tgt := 70) hx hb dX2_setNumber_52 (by decide) (fun c_10 => ?_) (fun c_10 => ?_)
            · rw [b2i_z] at c_10
              refine lv_iconst (v := 0) hx hb dX2_setNumber_70 (by decide) ?_
              refine lv_istore (lv' := [(4, .int 0), (0, .ref g0), (1, .int (nI j)), (2, .long v)]) hx hb dX2_setNumber_71 hl (by decide) rfl (fun ls hl => ?_)
              refine lv_aload_n hx hb dX2_setNumber_73 rfl (lv_at hl 1 rfl) ?_
              refine va_get (D := (dC, dI)) (ci := 2) (v := .ref gn) (C := RX2) (T := TX2) (N := 9) hx hb hts iwX2 hown hK hP 0 rfl rfl 6 (by decide) (hts (.fieldLink RX2 17 RX2 "numbers" "[J") (wa 361 (by decide +kernel) rfl)) (fun _ h9 => h9) rfl dX2_setNumber_74 ?_
              refine lv_iload_n hx hb dX2_setNumber_77 rfl (lv_at hl 2 rfl) ?_
              refine lv_iload hx hb dX2_setNumber_78 (lv_at hl 0 rfl) ?_
              refine lv_if_eq (tgt := 92) hx hb dX2_setNumber_80 (by decide) (fun c_11 => ?_) (fun c_11 => ?_)
              · refine lv_lload_n hx hb dX2_setNumber_92 rfl (lv_at hl 3 rfl) ?_
                refine lv_ldc2 (v := 18014398509481983) hx hb hown (hts (.constantLong RX2 65 18014398509481983) (wa 445 (by decide +kernel) rfl)) dX2_setNumber_93 ?_
                refine lv_land hx hb dX2_setNumber_96 ?_
                refine va_last hx hb hK hP hD hS 3 0 rfl rfl (vp_in_nI hj (by omega)) dX2_setNumber_97 (fun H locs hP hD hS => ?_)
                have hP : va_P (dC, dI) vwCl [(g0, .inr (2, [.int 0, .ref gm, .long tb, .int (b2i su), .int (b2i mx), .ref gc, .ref gn, .long fr, .long tt])), (gm, .inl (cL, 8192, .inr (.inl w))), (gc, .inl (cI, 8, .inl cf)), (gn, .inl (cL, 8, .inr (.inl (vp_updL nu j (v &&& 18014398509481983)))))] H := by have h9 := hP; simp only [List.set] at h9; rw [nI_clamp (show j < 2 ^ 31 by omega)] at h9; exact h9
                have hD : va_D A [(g0, .inr (2, [.int 0, .ref gm, .long tb, .int (b2i su), .int (b2i mx), .ref gc, .ref gn, .long fr, .long tt])), (gm, .inl (cL, 8192, .inr (.inl w))), (gc, .inl (cI, 8, .inl cf)), (gn, .inl (cL, 8, .inr (.inl (vp_updL nu j (v &&& 18014398509481983)))))] := by have h9 := hD; simp only [List.set] at h9; rw [nI_clamp (show j < 2 ^ 31 by omega)] at h9; exact h9
                have w9_0 : (k_takeNumber cf nu j v) = (vp_updL nu j (v &&& 18014398509481983)) := (by first | rfl | (simp only [m_takeNumber_eq hc hj, c_1, c_2, c_5, c_7, c_10, n7, b2i, decide_true, decide_false, Bool.not_true, Bool.not_false, Bool.and_true, Bool.and_false, Bool.true_and, Bool.false_and, Bool.or_true, Bool.or_false, Bool.true_or, Bool.false_or, reduceIte, or_true, true_or, or_false, false_or, and_true, true_and, and_false, false_and, not_true_eq_false, not_false_eq_true, Bool.false_eq_true, eq_self]; done) | (simp [m_takeNumber_eq hc hj, c_1, c_2, c_5, c_7, c_10, n7]; done))
                have hP9 : va_P (dC, dI) vwCl (wMD cL cI g0 gm gc gn 0 w tb su mx cf (k_takeNumber cf nu j v) fr tt) H := (by rw [w9_0]; exact hP)
                have hD9 : va_D A (wMD cL cI g0 gm gc gn 0 w tb su mx cf (k_takeNumber cf nu j v) fr tt) := (by rw [w9_0]; exact hD)
                exact W.vret hx hb hr (fun t ht hW => ⟨⟨(), rfl, trivial, (by rw [ht]; exact hP9), va_K.moved hW.alike hK, hD9⟩, hS.F ht⟩) hS.2.2 dX2_setNumber_98
              · first | exact absurd c_11 (by decide) | exact absurd (by decide) c_11
            · rw [b2i_z] at c_10
              rw [Bool.not_eq_false] at c_10
              refine lv_aload_n hx hb dX2_setNumber_55 rfl (lv_at hl 0 rfl) ?_
              refine lv_iload_n hx hb dX2_setNumber_56 rfl (lv_at hl 1 rfl) ?_
              refine lv_iconst (v := 1) hx hb dX2_setNumber_57 (by decide) ?_
              refine lv_iadd hx hb dX2_setNumber_58 ?_
              rw [nI_1]
              refine vp_callSi (W.runV (As := [.int (nI (j + 1))]) (rest := []) ⟨hx, hb, hml, hown, hts⟩ (mtX2_kind l dC dI cL cI g0 gm gc gn 0 w tb su mx cf nu fr tt (j + 1) (show j + 1 < 8 by omega)) (cwV 1 hts (gAll (mc1 (wa 441 (by decide +kernel) rfl) (mc1 (wa 443 (by decide +kernel) rfl) (mc1 (wa 8 (by decide +kernel) rfl) (mc1 (wa 17 (by decide +kernel) rfl) mc0)))) (wa 444 (by decide +kernel) rfl) (by decide +kernel)) rfl rfl rfl (by decide +kernel) ⟨Nat.le_of_ble_eq_true rfl, Nat.le_of_ble_eq_true rfl⟩) (rd_pre (ci := 2) (q0 := 0) hK hP rfl rfl) rfl rfl hl.1 rfl (lv_room (Nat.le_of_ble_eq_true rfl)) dX2_setNumber_59 ⟨Nat.le_of_ble_eq_true rfl, Nat.le_of_ble_eq_true rfl⟩) (fun r_12 er_12 => ?_)
              have er_12 : r_12 = (k_kindOf (cf (j + 1))) := er_12
              subst er_12
              refine lv_iconst (v := 1) hx hb dX2_setNumber_62 (by decide) ?_
              refine lv_icmp_ne (tgt := 70) hx hb dX2_setNumber_63 (by decide) (fun c_13 => ?_) (fun c_13 => ?_)
              · refine lv_iconst (v := 0) hx hb dX2_setNumber_70 (by decide) ?_
                refine lv_istore (lv' := [(4, .int 0), (0, .ref g0), (1, .int (nI j)), (2, .long v)]) hx hb dX2_setNumber_71 hl (by decide) rfl (fun ls hl => ?_)
                refine lv_aload_n hx hb dX2_setNumber_73 rfl (lv_at hl 1 rfl) ?_
                refine va_get (D := (dC, dI)) (ci := 2) (v := .ref gn) (C := RX2) (T := TX2) (N := 9) hx hb hts iwX2 hown hK hP 0 rfl rfl 6 (by decide) (hts (.fieldLink RX2 17 RX2 "numbers" "[J") (wa 361 (by decide +kernel) rfl)) (fun _ h9 => h9) rfl dX2_setNumber_74 ?_
                refine lv_iload_n hx hb dX2_setNumber_77 rfl (lv_at hl 2 rfl) ?_
                refine lv_iload hx hb dX2_setNumber_78 (lv_at hl 0 rfl) ?_
                refine lv_if_eq (tgt := 92) hx hb dX2_setNumber_80 (by decide) (fun c_14 => ?_) (fun c_14 => ?_)
                · refine lv_lload_n hx hb dX2_setNumber_92 rfl (lv_at hl 3 rfl) ?_
                  refine lv_ldc2 (v := 18014398509481983) hx hb hown (hts (.constantLong RX2 65 18014398509481983) (wa 445 (by decide +kernel) rfl)) dX2_setNumber_93 ?_
                  refine lv_land hx hb dX2_setNumber_96 ?_
                  refine va_last hx hb hK hP hD hS 3 0 rfl rfl (vp_in_nI hj (by omega)) dX2_setNumber_97 (fun H locs hP hD hS => ?_)
                  have hP : va_P (dC, dI) vwCl [(g0, .inr (2, [.int 0, .ref gm, .long tb, .int (b2i su), .int (b2i mx), .ref gc, .ref gn, .long fr, .long tt])), (gm, .inl (cL, 8192, .inr (.inl w))), (gc, .inl (cI, 8, .inl cf)), (gn, .inl (cL, 8, .inr (.inl (vp_updL nu j (v &&& 18014398509481983)))))] H := by have h9 := hP; simp only [List.set] at h9; rw [nI_clamp (show j < 2 ^ 31 by omega)] at h9; exact h9
                  have hD : va_D A [(g0, .inr (2, [.int 0, .ref gm, .long tb, .int (b2i su), .int (b2i mx), .ref gc, .ref gn, .long fr, .long tt])), (gm, .inl (cL, 8192, .inr (.inl w))), (gc, .inl (cI, 8, .inl cf)), (gn, .inl (cL, 8, .inr (.inl (vp_updL nu j (v &&& 18014398509481983)))))] := by have h9 := hD; simp only [List.set] at h9; rw [nI_clamp (show j < 2 ^ 31 by omega)] at h9; exact h9
                  have w9_0 : (k_takeNumber cf nu j v) = (vp_updL nu j (v &&& 18014398509481983)) := (by first | rfl | (simp only [m_takeNumber_eq hc hj, c_1, c_2, c_5, c_7, c_10, c_13, n7, b2i, decide_true, decide_false, Bool.not_true, Bool.not_false, Bool.and_true, Bool.and_false, Bool.true_and, Bool.false_and, Bool.or_true, Bool.or_false, Bool.true_or, Bool.false_or, reduceIte, or_true, true_or, or_false, false_or, and_true, true_and, and_false, false_and, not_true_eq_false, not_false_eq_true, Bool.false_eq_true, eq_self]; done) | (simp [m_takeNumber_eq hc hj, c_1, c_2, c_5, c_7, c_10, c_13, n7]; done))
                  have hP9 : va_P (dC, dI) vwCl (wMD cL cI g0 gm gc gn 0 w tb su mx cf (k_takeNumber cf nu j v) fr tt) H := (by rw [w9_0]; exact hP)
                  have hD9 : va_D A (wMD cL cI g0 gm gc gn 0 w tb su mx cf (k_takeNumber cf nu j v) fr tt) := (by rw [w9_0]; exact hD)
                  exact W.vret hx hb hr (fun t ht hW => ⟨⟨(), rfl, trivial, (by rw [ht]; exact hP9), va_K.moved hW.alike hK, hD9⟩, hS.F ht⟩) hS.2.2 dX2_setNumber_98
                · first | exact absurd c_14 (by decide) | exact absurd (by decide) c_14
              · refine lv_iconst (v := 1) hx hb dX2_setNumber_66 (by decide) ?_
                refine lv_goto (tgt := 71) hx hb dX2_setNumber_67 (by decide) ?_
                refine lv_istore (lv' := [(4, .int 1), (0, .ref g0), (1, .int (nI j)), (2, .long v)]) hx hb dX2_setNumber_71 hl (by decide) rfl (fun ls hl => ?_)
                refine lv_aload_n hx hb dX2_setNumber_73 rfl (lv_at hl 1 rfl) ?_
                refine va_get (D := (dC, dI)) (ci := 2) (v := .ref gn) (C := RX2) (T := TX2) (N := 9) hx hb hts iwX2 hown hK hP 0 rfl rfl 6 (by decide) (hts (.fieldLink RX2 17 RX2 "numbers" "[J") (wa 361 (by decide +kernel) rfl)) (fun _ h9 => h9) rfl dX2_setNumber_74 ?_
                refine lv_iload_n hx hb dX2_setNumber_77 rfl (lv_at hl 2 rfl) ?_
                refine lv_iload hx hb dX2_setNumber_78 (lv_at hl 0 rfl) ?_
                refine lv_if_eq (tgt := 92) hx hb dX2_setNumber_80 (by decide) (fun c_15 => ?_) (fun c_15 => ?_)
                · first | exact absurd c_15 (by decide) | exact absurd (by decide) c_15
                · refine lv_aload_n hx hb dX2_setNumber_83 rfl (lv_at hl 1 rfl) ?_
                  refine va_get (D := (dC, dI)) (ci := 2) (v := .ref gn) (C := RX2) (T := TX2) (N := 9) hx hb hts iwX2 hown hK hP 0 rfl rfl 6 (by decide) (hts (.fieldLink RX2 17 RX2 "numbers" "[J") (wa 361 (by decide +kernel) rfl)) (fun _ h9 => h9) rfl dX2_setNumber_84 ?_
                  refine lv_iload_n hx hb dX2_setNumber_87 rfl (lv_at hl 2 rfl) ?_
                  refine va_lald hx hb hK hP 3 0 rfl rfl (vp_in_nI hj (by omega)) dX2_setNumber_88 ?_
                  rw [nI_clamp (show j < 2 ^ 31 by omega)]
                  refine lv_goto (tgt := 97) hx hb dX2_setNumber_89 (by decide) ?_
                  refine va_last hx hb hK hP hD hS 3 0 rfl rfl (vp_in_nI hj (by omega)) dX2_setNumber_97 (fun H locs hP hD hS => ?_)
                  have hP : va_P (dC, dI) vwCl [(g0, .inr (2, [.int 0, .ref gm, .long tb, .int (b2i su), .int (b2i mx), .ref gc, .ref gn, .long fr, .long tt])), (gm, .inl (cL, 8192, .inr (.inl w))), (gc, .inl (cI, 8, .inl cf)), (gn, .inl (cL, 8, .inr (.inl (vp_updL nu j (nu j)))))] H := by have h9 := hP; simp only [List.set] at h9; rw [nI_clamp (show j < 2 ^ 31 by omega)] at h9; exact h9
                  have hD : va_D A [(g0, .inr (2, [.int 0, .ref gm, .long tb, .int (b2i su), .int (b2i mx), .ref gc, .ref gn, .long fr, .long tt])), (gm, .inl (cL, 8192, .inr (.inl w))), (gc, .inl (cI, 8, .inl cf)), (gn, .inl (cL, 8, .inr (.inl (vp_updL nu j (nu j)))))] := by have h9 := hD; simp only [List.set] at h9; rw [nI_clamp (show j < 2 ^ 31 by omega)] at h9; exact h9
                  have w9_0 : (k_takeNumber cf nu j v) = (vp_updL nu j (nu j)) := (by first | rfl | (simp only [m_takeNumber_eq hc hj, c_1, c_2, c_5, c_7, c_10, eq_true c_13, n7, b2i, decide_true, decide_false, Bool.not_true, Bool.not_false, Bool.and_true, Bool.and_false, Bool.true_and, Bool.false_and, Bool.or_true, Bool.or_false, Bool.true_or, Bool.false_or, reduceIte, or_true, true_or, or_false, false_or, and_true, true_and, and_false, false_and, not_true_eq_false, not_false_eq_true, Bool.false_eq_true, eq_self]; done) | (simp [m_takeNumber_eq hc hj, c_1, c_2, c_5, c_7, c_10, eq_true c_13, n7]; done) | (simp only [m_takeNumber_eq hc hj, c_1, c_2, c_5, c_7, c_10, c_13, n7, b2i, decide_true, decide_false, Bool.not_true, Bool.not_false, Bool.and_true, Bool.and_false, Bool.true_and, Bool.false_and, Bool.or_true, Bool.or_false, Bool.true_or, Bool.false_or, reduceIte, or_true, true_or, or_false, false_or, and_true, true_and, and_false, false_and, not_true_eq_false, not_false_eq_true, Bool.false_eq_true, eq_self]; done) | (simp [m_takeNumber_eq hc hj, c_1, c_2, c_5, c_7, c_10, c_13, n7]; done))
                  have hP9 : va_P (dC, dI) vwCl (wMD cL cI g0 gm gc gn 0 w tb su mx cf (k_takeNumber cf nu j v) fr tt) H := (by rw [w9_0]; exact hP)
                  have hD9 : va_D A (wMD cL cI g0 gm gc gn 0 w tb su mx cf (k_takeNumber cf nu j v) fr tt) := (by rw [w9_0]; exact hD)
                  exact W.vret hx hb hr (fun t ht hW => ⟨⟨(), rfl, trivial, (by rw [ht]; exact hP9), va_K.moved hW.alike hK, hD9⟩, hS.F ht⟩) hS.2.2 dX2_setNumber_98
      · first | exact absurd c_3 (by decide) | exact absurd (by decide) c_3
    · exact absurd (nI_le (show j ≤ 7 by omega) (by omega)) c_2
set_option maxHeartbeats 4000000 in
set_option maxRecDepth 100000 in
theorem mtX2_setNumber_no (l : Launch) (dC : Nat → ClassId) (dI : Nat → Nat → Nat) (cL : ClassId) (cI : ClassId) (g0 : Nat) (gm : Nat) (gc : Nat) (gn : Nat) (cd : Int32) (w : Nat → Int64) (tb : Int64) (su : Bool) (mx : Bool) (cf : Nat → Int32) (nu : Nat → Int64) (fr : Int64) (tt : Int64) (hz : Nat) (i : Int32) (v : Int64) (hi : ¬ (¬ i < 0 ∧ i ≤ 7)) : Met l yX2_setNumber wsX2_setNumber ({ frames := 1, cells := 0, slots := 0, locals := 22 }) (va_Pc [.ref g0, .int i, .long v] (fun U => U.heap.size = hz ∧ va_P (dC, dI) vwCl (wMD cL cI g0 gm gc gn cd w tb su mx cf nu fr tt) U.heap ∧ va_K (dC, dI) vwCl [(cL, .long), (cI, .int)] U ∧ va_D (fun _ => True) (wMD cL cI g0 gm gc gn cd w tb su mx cf nu fr tt))) (va_Qv (fun _ : Unit => True) (fun _ t => va_P (dC, dI) vwCl (wMD cL cI g0 gm gc gn 1 w tb su mx cf nu fr tt) t.heap ∧ va_K (dC, dI) vwCl [(cL, .long), (cI, .int)] t ∧ va_D (va_A (wMD cL cI g0 gm gc gn cd w tb su mx cf nu fr tt) hz) (wMD cL cI g0 gm gc gn 1 w tb su mx cf nu fr tt)) (va_A (wMD cL cI g0 gm gc gn cd w tb su mx cf nu fr tt) hz)) 0 0 (va_A (wMD cL cI g0 gm gc gn cd w tb su mx cf nu fr tt) hz) := by
  refine Met.ofW (cc := cX2_setNumber) (maxL := 5) (ret := none) (by decide) rfl ?_
  intro p e s m args below meth c s₁ B hml hv
  obtain ⟨rfl, hsz, hP, hK, hD0⟩ := hv
  have hx := B.exec
  have hb := B.bytes
  have hr := B.returns
  have hts := atoms_spec (ws := wsX2_setNumber) B.pre
  have hown : s.vm.findClass RX2 = some m.cls := findClass_of_methodNamed B.named
  have hlocks := B.notSynchronized
  subst hsz
  have hD := hD0.self (sz := s.heap.size)
  generalize hAe : va_A (wMD cL cI g0 gm gc gn cd w tb su mx cf nu fr tt) s.heap.size = A at hD ⊢
  have hA : ∀ q : Nat, s.heap.size ≤ q → A q := fun q h => by rw [← hAe]; exact Or.inr h
  have hS : va_S A s.heap s.heap [] := va_S.rf
  have hP : va_P (dC, dI) vwCl [(g0, .inr (2, [.int cd, .ref gm, .long tb, .int (b2i su), .int (b2i mx), .ref gc, .ref gn, .long fr, .long tt])), (gm, .inl (cL, 8192, .inr (.inl w))), (gc, .inl (cI, 8, .inl cf)), (gn, .inl (cL, 8, .inr (.inl nu)))] s.heap := hP
  have hD : va_D A [(g0, .inr (2, [.int cd, .ref gm, .long tb, .int (b2i su), .int (b2i mx), .ref gc, .ref gn, .long fr, .long tt])), (gm, .inl (cL, 8192, .inr (.inl w))), (gc, .inl (cI, 8, .inl cf)), (gn, .inl (cL, 8, .inr (.inl nu)))] := hD
  have hl := lv_entry ([.ref g0, .int i, .long v]) (n := 5) (Nat.le_of_ble_eq_true rfl)
  rw [lg_entry_eq]
  generalize (lg_sl ([.ref g0, .int i, .long v]) ++ List.replicate (5 - (lg_sl ([.ref g0, .int i, .long v])).length) Slot.unset).toArray = ls at hl ⊢
  have hl : lv_has ls 5 [(0, .ref g0), (1, .int i), (2, .long v)] := hl
  refine lv_aload_n hx hb dX2_setNumber_0 rfl (lv_at hl 0 rfl) ?_
  refine lv_iload_n hx hb dX2_setNumber_1 rfl (lv_at hl 1 rfl) ?_
  refine lv_if_lt (tgt := 11) hx hb dX2_setNumber_2 (by decide) (fun c_1 => ?_) (fun c_1 => ?_)
  · refine lv_iconst (v := 1) hx hb dX2_setNumber_11 (by decide) ?_
    refine lv_goto (tgt := 16) hx hb dX2_setNumber_12 (by decide) ?_
    refine va_put (D := (dC, dI)) (ci := 2) (v := .int 1) (ty := .int) (C := RX2) (T := TX2) (N := 9) hx hb hts iwX2 tyX2 tyX2_ok nmX2 hown hK hP hD hS 0 rfl rfl 0 (by decide) (hts (.fieldLink RX2 20 RX2 "code" "I") (wa 355 (by decide +kernel) rfl)) (fun _ h9 => h9) rfl (by decide +kernel) rfl rfl (Nat.le_of_ble_eq_true rfl) dX2_setNumber_16 (fun H locs hP hD hS => ?_)
    have hP : va_P (dC, dI) vwCl [(g0, .inr (2, [.int 1, .ref gm, .long tb, .int (b2i su), .int (b2i mx), .ref gc, .ref gn, .long fr, .long tt])), (gm, .inl (cL, 8192, .inr (.inl w))), (gc, .inl (cI, 8, .inl cf)), (gn, .inl (cL, 8, .inr (.inl nu)))] H := hP
    have hD : va_D A [(g0, .inr (2, [.int 1, .ref gm, .long tb, .int (b2i su), .int (b2i mx), .ref gc, .ref gn, .long fr, .long tt])), (gm, .inl (cL, 8192, .inr (.inl w))), (gc, .inl (cI, 8, .inl cf)), (gn, .inl (cL, 8, .inr (.inl nu)))] := hD
    refine lv_aload_n hx hb dX2_setNumber_19 rfl (lv_at hl 0 rfl) ?_
    refine va_get (D := (dC, dI)) (ci := 2) (v := .int 1) (C := RX2) (T := TX2) (N := 9) hx hb hts iwX2 hown hK hP 0 rfl rfl 0 (by decide) (hts (.fieldLink RX2 20 RX2 "code" "I") (wa 355 (by decide +kernel) rfl)) (fun _ h9 => h9) rfl dX2_setNumber_20 ?_
    refine lv_if_le (tgt := 27) hx hb dX2_setNumber_23 (by decide) (fun c_2 => ?_) (fun c_2 => ?_)
    · first | exact absurd c_2 (by decide) | exact absurd (by decide) c_2
    · have hP9 : va_P (dC, dI) vwCl (wMD cL cI g0 gm gc gn 1 w tb su mx cf nu fr tt) H := hP
      have hD9 : va_D A (wMD cL cI g0 gm gc gn 1 w tb su mx cf nu fr tt) := hD
      exact W.vret hx hb hr (fun t ht hW => ⟨⟨(), rfl, trivial, (by rw [ht]; exact hP9), va_K.moved hW.alike hK, hD9⟩, hS.F ht⟩) hS.2.2 dX2_setNumber_26
  · refine lv_iload_n hx hb dX2_setNumber_5 rfl (lv_at hl 1 rfl) ?_
    refine lv_bipush (v := 7) hx hb dX2_setNumber_6 (by decide) ?_
    refine lv_icmp_le (tgt := 15) hx hb dX2_setNumber_8 (by decide) (fun c_3 => ?_) (fun c_3 => ?_)
    · exact absurd ⟨c_1, c_3⟩ hi
    · refine lv_iconst (v := 1) hx hb dX2_setNumber_11 (by decide) ?_
      refine lv_goto (tgt := 16) hx hb dX2_setNumber_12 (by decide) ?_
      refine va_put (D := (dC, dI)) (ci := 2) (v := .int 1) (ty := .int) (C := RX2) (T := TX2) (N := 9) hx hb hts iwX2 tyX2 tyX2_ok nmX2 hown hK hP hD hS 0 rfl rfl 0 (by decide) (hts (.fieldLink RX2 20 RX2 "code" "I") (wa 355 (by decide +kernel) rfl)) (fun _ h9 => h9) rfl (by decide +kernel) rfl rfl (Nat.le_of_ble_eq_true rfl) dX2_setNumber_16 (fun H locs hP hD hS => ?_)
      have hP : va_P (dC, dI) vwCl [(g0, .inr (2, [.int 1, .ref gm, .long tb, .int (b2i su), .int (b2i mx), .ref gc, .ref gn, .long fr, .long tt])), (gm, .inl (cL, 8192, .inr (.inl w))), (gc, .inl (cI, 8, .inl cf)), (gn, .inl (cL, 8, .inr (.inl nu)))] H := hP
      have hD : va_D A [(g0, .inr (2, [.int 1, .ref gm, .long tb, .int (b2i su), .int (b2i mx), .ref gc, .ref gn, .long fr, .long tt])), (gm, .inl (cL, 8192, .inr (.inl w))), (gc, .inl (cI, 8, .inl cf)), (gn, .inl (cL, 8, .inr (.inl nu)))] := hD
      refine lv_aload_n hx hb dX2_setNumber_19 rfl (lv_at hl 0 rfl) ?_
      refine va_get (D := (dC, dI)) (ci := 2) (v := .int 1) (C := RX2) (T := TX2) (N := 9) hx hb hts iwX2 hown hK hP 0 rfl rfl 0 (by decide) (hts (.fieldLink RX2 20 RX2 "code" "I") (wa 355 (by decide +kernel) rfl)) (fun _ h9 => h9) rfl dX2_setNumber_20 ?_
      refine lv_if_le (tgt := 27) hx hb dX2_setNumber_23 (by decide) (fun c_4 => ?_) (fun c_4 => ?_)
      · first | exact absurd c_4 (by decide) | exact absurd (by decide) c_4
      · have hP9 : va_P (dC, dI) vwCl (wMD cL cI g0 gm gc gn 1 w tb su mx cf nu fr tt) H := hP
        have hD9 : va_D A (wMD cL cI g0 gm gc gn 1 w tb su mx cf nu fr tt) := hD
        exact W.vret hx hb hr (fun t ht hW => ⟨⟨(), rfl, trivial, (by rw [ht]; exact hP9), va_K.moved hW.alike hK, hD9⟩, hS.F ht⟩) hS.2.2 dX2_setNumber_26
