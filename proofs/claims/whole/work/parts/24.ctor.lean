theorem na_i {n : Nat} (cA : ClassId) : vp_cell cA (n, .inl (fun _ => 0)) = arrV cA n (fun _ => defaultValue .int) := vp_cell_i cA n (fun _ => 0)
theorem na_l {n : Nat} (cA : ClassId) : vp_cell cA (n, .inr (.inl (fun _ => 0))) = arrV cA n (fun _ => defaultValue .long) := vp_cell_l cA n (fun _ => 0)
theorem ra_long {D : va_G} {cl : List vw_C} {t1 t2 : List (ClassId × FieldType)} {s : State} {c1 c2 : ClassId} (h1 : va_K D cl t1 s) (h2 : va_K D cl t2 s) (i j : Nat) (e1 : t1[i]? = some (c1, .long)) (e2 : t2[j]? = some (c2, .long)) : c1 = c2 := by
  have a : s.vm.findClass _ = some c1 := (h1.2 i _ e1).2
  have b : s.vm.findClass _ = some c2 := (h2.2 j _ e2).2
  exact Option.some.inj (a.symm.trans b)
theorem ra_int {D : va_G} {cl : List vw_C} {t1 t2 : List (ClassId × FieldType)} {s : State} {c1 c2 : ClassId} (h1 : va_K D cl t1 s) (h2 : va_K D cl t2 s) (i j : Nat) (e1 : t1[i]? = some (c1, .int)) (e2 : t2[j]? = some (c2, .int)) : c1 = c2 := by
  have a : s.vm.findClass _ = some c1 := (h1.2 i _ e1).2
  have b : s.vm.findClass _ = some c2 := (h2.2 j _ e2).2
  exact Option.some.inj (a.symm.trans b)
set_option maxHeartbeats 400000 in
set_option maxRecDepth 100000 in
theorem mtX0_init (l : Launch) (dC : Nat → ClassId) (dI : Nat → Nat → Nat) (q hz : Nat) : Met l yX0_init wsX0_init ({ frames := 1, cells := 2, slots := 16, locals := 12 }) (va_Pc [.ref q] (fun U => U.heap.size = hz ∧ va_P (dC, dI) vwCl [(q, .inr (0, [.null, .null]))] U.heap ∧ va_K (dC, dI) vwCl [] U ∧ va_D (fun _ => True) [(q, .inr (0, [.null, .null]))])) (va_Qv (fun _ : (ClassId × ClassId) × Nat × Nat => True) (fun u t => va_P (dC, dI) vwCl (wRG u.1.1 u.1.2 q u.2.1 u.2.2 (fun _ => 0) (fun _ => 0)) t.heap ∧ va_K (dC, dI) vwCl [(u.1.1, .long), (u.1.2, .int)] t ∧ va_D (va_A [(q, .inr (0, [.null, .null]))] hz) (wRG u.1.1 u.1.2 q u.2.1 u.2.2 (fun _ => 0) (fun _ => 0))) (va_A [(q, .inr (0, [.null, .null]))] hz)) 2 16 (va_A [(q, .inr (0, [.null, .null]))] hz) := by
  refine Met.ofW (cc := cX0_init) (maxL := 1) (ret := none) (by decide) rfl ?_
  intro p e s m args below meth c s₁ B hml hv
  obtain ⟨rfl, hsz, hP, hK, hD0⟩ := hv
  have hx := B.exec
  have hb := B.bytes
  have hr := B.returns
  have hts := atoms_spec (ws := wsX0_init) B.pre
  have hown : s.vm.findClass RX0 = some m.cls := findClass_of_methodNamed B.named
  have hlocks := B.notSynchronized
  have hin : meth.name = "<init>" := (name_of_methodNamed B.named B.method).1
  subst hsz
  have hD := hD0.self (sz := s.heap.size)
  generalize hAe : va_A [(q, .inr (0, [.null, .null]))] s.heap.size = A at hD ⊢
  have hA : ∀ q : Nat, s.heap.size ≤ q → A q := fun q h => by rw [← hAe]; exact Or.inr h
  have hS : va_S A s.heap s.heap [] := va_S.rf
  have hP : va_P (dC, dI) vwCl [(q, .inr (0, [.null, .null]))] s.heap := hP
  have hD : va_D A [(q, .inr (0, [.null, .null]))] := hD
  have hl := lv_entry ([.ref q]) (n := 1) (Nat.le_of_ble_eq_true rfl)
  rw [lg_entry_eq]
  generalize (lg_sl ([.ref q]) ++ List.replicate (1 - (lg_sl ([.ref q])).length) Slot.unset).toArray = ls at hl ⊢
  have hl : lv_has ls 1 [(0, .ref q)] := hl
  refine lv_aload_n hx hb dX0_init_0 rfl (lv_at hl 0 rfl) ?_
  refine W.objInit hx hb hown (hts (.methodLink RX0 3 objectInit) (wa 36 (by decide +kernel) rfl)) (hts (.instanceMethod objectInit) (wa 29 (by decide +kernel) rfl)) (hts (.code objectInit object_method_1_code 1 none) (wa 30 (by decide +kernel) rfl)) rfl (by rw [hml]; exact hl.1) rfl dX0_init_1 (Nat.le_of_ble_eq_true rfl) (Nat.le_of_ble_eq_true rfl) ?_
  refine W.eq (g2 := F0 m 4 ls []) rfl ?_
  refine lv_aload_n hx hb dX0_init_4 rfl (lv_at hl 0 rfl) ?_
  refine lv_bipush (v := 8) hx hb dX0_init_5 (by decide) ?_
  refine va_newa (atype := .int) (a0 := (8, .inl (fun _ => 0))) (N' := 8) hx hb (hts (.arrayClass .int) (wa 45 (by decide +kernel) rfl)) rfl hK hP hD hS hA na_i (by decide) (by decide +kernel) (Nat.le_of_ble_eq_true rfl) (Nat.le_of_ble_eq_true rfl) (Nat.le_of_ble_eq_true rfl) dX0_init_7 (fun qc cI H hK hP hD hS => ?_)
  have hK : va_K (dC, dI) vwCl [(cI, .int)] s := hK
  have hP : va_P (dC, dI) vwCl [(q, .inr (0, [.null, .null])), (qc, .inl (cI, 8, .inl (fun _ => 0)))] H := hP
  have hD : va_D A [(q, .inr (0, [.null, .null])), (qc, .inl (cI, 8, .inl (fun _ => 0)))] := hD
  refine va_putF (D := (dC, dI)) (ci := 0) (v := .ref qc) (ty := .array .int) (C := RX0) (T := TX0) (N := 2) hx hb hts iwX0 tyX0 tyX0_ok nmX0 hown hK hP hD hS 0 rfl rfl 0 (by decide) (hts (.fieldLink RX0 11 RX0 "configs" "[I") (wa 37 (by decide +kernel) rfl)) (fun _ h9 => h9) rfl hin rfl (by decide +kernel) rfl rfl (Nat.le_of_ble_eq_true rfl) dX0_init_9 (fun H locs hP hD hS => ?_)
  have hP : va_P (dC, dI) vwCl [(q, .inr (0, [.ref qc, .null])), (qc, .inl (cI, 8, .inl (fun _ => 0)))] H := hP
  have hD : va_D A [(q, .inr (0, [.ref qc, .null])), (qc, .inl (cI, 8, .inl (fun _ => 0)))] := hD
  refine lv_aload_n hx hb dX0_init_12 rfl (lv_at hl 0 rfl) ?_
  refine lv_bipush (v := 8) hx hb dX0_init_13 (by decide) ?_
  refine va_newa (atype := .long) (a0 := (8, .inr (.inl (fun _ => 0)))) (N' := 8) hx hb (hts (.arrayClass .long) (wa 44 (by decide +kernel) rfl)) rfl hK hP hD hS hA na_l (by decide) (by decide +kernel) (Nat.le_of_ble_eq_true rfl) (Nat.le_of_ble_eq_true rfl) (Nat.le_of_ble_eq_true rfl) dX0_init_15 (fun qn cL H hK hP hD hS => ?_)
  have hK : va_K (dC, dI) vwCl [(cI, .int), (cL, .long)] s := hK
  have hP : va_P (dC, dI) vwCl [(q, .inr (0, [.ref qc, .null])), (qc, .inl (cI, 8, .inl (fun _ => 0))), (qn, .inl (cL, 8, .inr (.inl (fun _ => 0))))] H := hP
  have hD : va_D A [(q, .inr (0, [.ref qc, .null])), (qc, .inl (cI, 8, .inl (fun _ => 0))), (qn, .inl (cL, 8, .inr (.inl (fun _ => 0))))] := hD
  refine va_putF (D := (dC, dI)) (ci := 0) (v := .ref qn) (ty := .array .long) (C := RX0) (T := TX0) (N := 2) hx hb hts iwX0 tyX0 tyX0_ok nmX0 hown hK hP hD hS 0 rfl rfl 1 (by decide) (hts (.fieldLink RX0 15 RX0 "numbers" "[J") (wa 38 (by decide +kernel) rfl)) (fun _ h9 => h9) rfl hin rfl (by decide +kernel) rfl rfl (Nat.le_of_ble_eq_true rfl) dX0_init_17 (fun H locs hP hD hS => ?_)
  have hP : va_P (dC, dI) vwCl [(q, .inr (0, [.ref qc, .ref qn])), (qc, .inl (cI, 8, .inl (fun _ => 0))), (qn, .inl (cL, 8, .inr (.inl (fun _ => 0))))] H := hP
  have hD : va_D A [(q, .inr (0, [.ref qc, .ref qn])), (qc, .inl (cI, 8, .inl (fun _ => 0))), (qn, .inl (cL, 8, .inr (.inl (fun _ => 0))))] := hD
  have hP9 : va_P (dC, dI) vwCl (wRG cL cI q qc qn (fun _ => 0) (fun _ => 0)) H := hP
  have hD9 : va_D A (wRG cL cI q qc qn (fun _ => 0) (fun _ => 0)) := hD
  have hK9 : va_K (dC, dI) vwCl [(cL, .long), (cI, .int)] s := hK.sub [1, 0] rfl
  refine W.widen (k := 2) (n := 16) (Nat.le_of_ble_eq_true rfl) (Nat.le_of_ble_eq_true rfl) ?_
  exact W.vret hx hb hr (fun t ht hW => ⟨⟨((cL, cI), qc, qn), rfl, trivial, (by rw [ht]; exact hP9), va_K.moved hW.alike hK9, hD9⟩, hS.F ht⟩) hS.2.2 dX0_init_20
set_option maxHeartbeats 400000 in
set_option maxRecDepth 100000 in
theorem mtX1_init (l : Launch) (dC : Nat → ClassId) (dI : Nat → Nat → Nat) (q hz : Nat) : Met l yX1_init wsX1_init ({ frames := 2, cells := 4, slots := 8210, locals := 32 }) (va_Pc [.ref q] (fun U => U.heap.size = hz ∧ va_P (dC, dI) vwCl [(q, .inr (1, [.null, .null, .long 0, .int 0, .int 0]))] U.heap ∧ va_K (dC, dI) vwCl [] U ∧ va_D (fun _ => True) [(q, .inr (1, [.null, .null, .long 0, .int 0, .int 0]))] ∧ va_Nw (.methodLinkNest RX1 15 yX0_init RX1) U)) (va_Qv (fun _ : (ClassId × ClassId) × Nat × Nat × Nat × Nat => True) (fun u t => va_P (dC, dI) vwCl (wPW u.1.1 u.1.2 q u.2.1 u.2.2.1 u.2.2.2.1 u.2.2.2.2 (fun _ => 0) 0 false false (fun _ => 0) (fun _ => 0)) t.heap ∧ va_K (dC, dI) vwCl [(u.1.1, .long), (u.1.2, .int)] t ∧ va_D (va_A [(q, .inr (1, [.null, .null, .long 0, .int 0, .int 0]))] hz) (wPW u.1.1 u.1.2 q u.2.1 u.2.2.1 u.2.2.2.1 u.2.2.2.2 (fun _ => 0) 0 false false (fun _ => 0) (fun _ => 0))) (va_A [(q, .inr (1, [.null, .null, .long 0, .int 0, .int 0]))] hz)) 4 8210 (va_A [(q, .inr (1, [.null, .null, .long 0, .int 0, .int 0]))] hz) := by
  refine Met.ofW (cc := cX1_init) (maxL := 1) (ret := none) (by decide) rfl ?_
  intro p e s m args below meth c s₁ B hml hv
  obtain ⟨rfl, hsz, hP, hK, hD0, hN⟩ := hv
  have hx := B.exec
  have hb := B.bytes
  have hr := B.returns
  have hts := atoms_spec (ws := wsX1_init) B.pre
  have hown : s.vm.findClass RX1 = some m.cls := findClass_of_methodNamed B.named
  have hlocks := B.notSynchronized
  have hin : meth.name = "<init>" := (name_of_methodNamed B.named B.method).1
  subst hsz
  have hD := hD0.self (sz := s.heap.size)
  generalize hAe : va_A [(q, .inr (1, [.null, .null, .long 0, .int 0, .int 0]))] s.heap.size = A at hD ⊢
  have hA : ∀ q : Nat, s.heap.size ≤ q → A q := fun q h => by rw [← hAe]; exact Or.inr h
  have hS : va_S A s.heap s.heap [] := va_S.rf
  have hP : va_P (dC, dI) vwCl [(q, .inr (1, [.null, .null, .long 0, .int 0, .int 0]))] s.heap := hP
  have hD : va_D A [(q, .inr (1, [.null, .null, .long 0, .int 0, .int 0]))] := hD
  have hl := lv_entry ([.ref q]) (n := 1) (Nat.le_of_ble_eq_true rfl)
  rw [lg_entry_eq]
  generalize (lg_sl ([.ref q]) ++ List.replicate (1 - (lg_sl ([.ref q])).length) Slot.unset).toArray = ls at hl ⊢
  have hl : lv_has ls 1 [(0, .ref q)] := hl
  refine lv_aload_n hx hb dX1_init_0 rfl (lv_at hl 0 rfl) ?_
  refine W.objInit hx hb hown (hts (.methodLink RX1 3 objectInit) (wa 28 (by decide +kernel) rfl)) (hts (.instanceMethod objectInit) (wa 29 (by decide +kernel) rfl)) (hts (.code objectInit object_method_1_code 1 none) (wa 30 (by decide +kernel) rfl)) rfl (by rw [hml]; exact hl.1) rfl dX1_init_1 (Nat.le_of_ble_eq_true rfl) (Nat.le_of_ble_eq_true rfl) ?_
  refine W.eq (g2 := F0 m 4 ls []) rfl ?_
  refine lv_aload_n hx hb dX1_init_4 rfl (lv_at hl 0 rfl) ?_
  refine lv_sipush (v := 8192) hx hb dX1_init_5 (by decide) ?_
  refine va_newa (atype := .long) (a0 := (8192, .inr (.inl (fun _ => 0)))) (N' := 8192) hx hb (hts (.arrayClass .long) (wa 44 (by decide +kernel) rfl)) rfl hK hP hD hS hA na_l (by decide) (by decide +kernel) (Nat.le_of_ble_eq_true rfl) (Nat.le_of_ble_eq_true rfl) (Nat.le_of_ble_eq_true rfl) dX1_init_8 (fun qw cL H hK hP hD hS => ?_)
  have hK : va_K (dC, dI) vwCl [(cL, .long)] s := hK
  have hP : va_P (dC, dI) vwCl [(q, .inr (1, [.null, .null, .long 0, .int 0, .int 0])), (qw, .inl (cL, 8192, .inr (.inl (fun _ => 0))))] H := hP
  have hD : va_D A [(q, .inr (1, [.null, .null, .long 0, .int 0, .int 0])), (qw, .inl (cL, 8192, .inr (.inl (fun _ => 0))))] := hD
  refine va_putF (D := (dC, dI)) (ci := 1) (v := .ref qw) (ty := .array .long) (C := RX1) (T := TX1) (N := 5) hx hb hts iwX1 tyX1 tyX1_ok nmX1 hown hK hP hD hS 0 rfl rfl 0 (by decide) (hts (.fieldLink RX1 9 RX1 "words" "[J") (wa 46 (by decide +kernel) rfl)) (fun _ h9 => h9) rfl hin rfl (by decide +kernel) rfl rfl (Nat.le_of_ble_eq_true rfl) dX1_init_10 (fun H locs hP hD hS => ?_)
  have hP : va_P (dC, dI) vwCl [(q, .inr (1, [.ref qw, .null, .long 0, .int 0, .int 0])), (qw, .inl (cL, 8192, .inr (.inl (fun _ => 0))))] H := hP
  have hD : va_D A [(q, .inr (1, [.ref qw, .null, .long 0, .int 0, .int 0])), (qw, .inl (cL, 8192, .inr (.inl (fun _ => 0))))] := hD
  refine lv_aload_n hx hb dX1_init_13 rfl (lv_at hl 0 rfl) ?_
  refine va_new (ci := 0) (fs := [.null, .null]) (C := RX0) (T := TX0) (N := 2) hx hb hts iwX0 tyX0 tyX0_ok hown (hts (.classLink RX1 13 RX0) (wa 31 (by decide +kernel) rfl)) (hts (.instantiable RX0 2) (wa 32 (by decide +kernel) rfl)) (hts (.initialized RX0) (wa 16 (by decide +kernel) rfl)) hK hP hD hS hA rfl (fun j hj => by rcases (show j = 0 ∨ j = 1 by omega) with rfl | rfl <;> rfl) (Nat.le_of_ble_eq_true rfl) (Nat.le_of_ble_eq_true rfl) dX1_init_14 (fun qr H hP hD hS => ?_)
  have hP : va_P (dC, dI) vwCl [(q, .inr (1, [.ref qw, .null, .long 0, .int 0, .int 0])), (qw, .inl (cL, 8192, .inr (.inl (fun _ => 0)))), (qr, .inr (0, [.null, .null]))] H := hP
  have hD : va_D A [(q, .inr (1, [.ref qw, .null, .long 0, .int 0, .int 0])), (qw, .inl (cL, 8192, .inr (.inl (fun _ => 0)))), (qr, .inr (0, [.null, .null]))] := hD
  refine lv_dup hx hb dX1_init_17 rfl ?_
  have hPc := hP.sub (ws' := [(qr, .inr (0, [.null, .null]))]) [2] rfl
  have hDc := hD.sub (ws' := [(qr, .inr (0, [.null, .null]))]) [2] (by decide) rfl
  have hKc := hK.sub (tys' := []) [] rfl
  have hFc := va_free (wc := [(qr, .inr (0, [.null, .null]))]) hD hS hA [2] rfl
  refine va_callv (va_runIN (As := []) (rest := [.ref qr, .ref q]) ⟨hx, hb, hml, hown, hts⟩ (mtX0_init l dC dI qr H.size) ⟨va_cnB 0 hts (gAll mc0 (wa 35 (by decide +kernel) rfl) (by decide +kernel)) rfl rfl rfl hN (hts (.initialized RX0) (wa 16 (by decide +kernel) rfl)) (by decide +kernel) ⟨Nat.le_of_ble_eq_true rfl, Nat.le_of_ble_eq_true rfl⟩, rfl, (hts (.instanceMethod yX0_init) (wa 34 (by decide +kernel) rfl))⟩ ⟨fun a U g mk z => ⟨z.1, z.2.1, z.2.2.1, va_K.moved (u := U) (U := U.calling g mk a) (Vm.Alike.refl U.vm) z.2.2.2.1, z.2.2.2.2⟩, fun U hU hW => ⟨rfl, by rw [hU], by rw [hU]; exact hPc, va_K.moved hW.alike hKc, hDc.weaken (fun _ _ _ _ => trivial)⟩⟩ rfl rfl hl.1 rfl (lv_room (Nat.le_of_ble_eq_true rfl)) dX1_init_18 ⟨Nat.le_of_ble_eq_true rfl, Nat.le_of_ble_eq_true rfl⟩) hS (fun q _ h => hFc q h) hFc (fun u t H1 locs ht hvm hpo hB hz1 hk1 hS => ?_)
  obtain ⟨⟨cL2, cI⟩, qc, qn⟩ := u
  obtain ⟨hP1, hK1, hD1⟩ := hB
  rw [ht] at hP1
  have hK1 := va_K.moved hvm.symm hK1
  have ec : cL2 = cL := ra_long hK1 hK 0 0 rfl rfl
  subst ec
  obtain ⟨hP, hD⟩ := va_join (wr := [(q, .inr (1, [.ref qw, .null, .long 0, .int 0, .int 0])), (qw, .inl (cL2, 8192, .inr (.inl (fun _ => 0))))]) (w1 := (wRG cL2 cI qr qc qn (fun _ => 0) (fun _ => 0))) hP hD [2] [0, 1] rfl rfl (by decide) (by decide) hk1 hFc hP1 hD1
  generalize H1 = H at hP hS ⊢
  have hP : va_P (dC, dI) vwCl [(q, .inr (1, [.ref qw, .null, .long 0, .int 0, .int 0])), (qw, .inl (cL2, 8192, .inr (.inl (fun _ => 0)))), (qr, .inr (0, [.ref qc, .ref qn])), (qc, .inl (cI, 8, .inl (fun _ => 0))), (qn, .inl (cL2, 8, .inr (.inl (fun _ => 0))))] H := hP
  have hD : va_D A [(q, .inr (1, [.ref qw, .null, .long 0, .int 0, .int 0])), (qw, .inl (cL2, 8192, .inr (.inl (fun _ => 0)))), (qr, .inr (0, [.ref qc, .ref qn])), (qc, .inl (cI, 8, .inl (fun _ => 0))), (qn, .inl (cL2, 8, .inr (.inl (fun _ => 0))))] := hD
  have hK := hK1
  refine va_putF (D := (dC, dI)) (ci := 1) (v := .ref qr) (ty := .object "PageWalker$Regions") (C := RX1) (T := TX1) (N := 5) hx hb hts iwX1 tyX1 tyX1_ok nmX1 hown hK hP hD hS 0 rfl rfl 1 (by decide) (hts (.fieldLink RX1 16 RX1 "regions" "LPageWalker$Regions;") (wa 47 (by decide +kernel) rfl)) (fun _ h9 => h9) rfl hin rfl (by decide +kernel) rfl rfl (Nat.le_of_ble_eq_true rfl) dX1_init_21 (fun H locs hP hD hS => ?_)
  have hP : va_P (dC, dI) vwCl [(q, .inr (1, [.ref qw, .ref qr, .long 0, .int 0, .int 0])), (qw, .inl (cL2, 8192, .inr (.inl (fun _ => 0)))), (qr, .inr (0, [.ref qc, .ref qn])), (qc, .inl (cI, 8, .inl (fun _ => 0))), (qn, .inl (cL2, 8, .inr (.inl (fun _ => 0))))] H := hP
  have hD : va_D A [(q, .inr (1, [.ref qw, .ref qr, .long 0, .int 0, .int 0])), (qw, .inl (cL2, 8192, .inr (.inl (fun _ => 0)))), (qr, .inr (0, [.ref qc, .ref qn])), (qc, .inl (cI, 8, .inl (fun _ => 0))), (qn, .inl (cL2, 8, .inr (.inl (fun _ => 0))))] := hD
  refine lv_aload_n hx hb dX1_init_24 rfl (lv_at hl 0 rfl) ?_
  refine lv_lconst (v := 0) hx hb dX1_init_25 (by decide) ?_
  refine va_put (D := (dC, dI)) (ci := 1) (v := .long 0) (ty := .long) (C := RX1) (T := TX1) (N := 5) hx hb hts iwX1 tyX1 tyX1_ok nmX1 hown hK hP hD hS 0 rfl rfl 2 (by decide) (hts (.fieldLink RX1 20 RX1 "table" "J") (wa 48 (by decide +kernel) rfl)) (fun _ h9 => h9) rfl (by decide +kernel) rfl rfl (Nat.le_of_ble_eq_true rfl) dX1_init_26 (fun H locs hP hD hS => ?_)
  have hP : va_P (dC, dI) vwCl [(q, .inr (1, [.ref qw, .ref qr, .long 0, .int 0, .int 0])), (qw, .inl (cL2, 8192, .inr (.inl (fun _ => 0)))), (qr, .inr (0, [.ref qc, .ref qn])), (qc, .inl (cI, 8, .inl (fun _ => 0))), (qn, .inl (cL2, 8, .inr (.inl (fun _ => 0))))] H := hP
  have hD : va_D A [(q, .inr (1, [.ref qw, .ref qr, .long 0, .int 0, .int 0])), (qw, .inl (cL2, 8192, .inr (.inl (fun _ => 0)))), (qr, .inr (0, [.ref qc, .ref qn])), (qc, .inl (cI, 8, .inl (fun _ => 0))), (qn, .inl (cL2, 8, .inr (.inl (fun _ => 0))))] := hD
  refine lv_aload_n hx hb dX1_init_29 rfl (lv_at hl 0 rfl) ?_
  refine lv_iconst (v := 0) hx hb dX1_init_30 (by decide) ?_
  refine va_put (D := (dC, dI)) (ci := 1) (v := .int 0) (ty := .boolean) (C := RX1) (T := TX1) (N := 5) hx hb hts iwX1 tyX1 tyX1_ok nmX1 hown hK hP hD hS 0 rfl rfl 3 (by decide) (hts (.fieldLink RX1 24 RX1 "sum" "Z") (wa 49 (by decide +kernel) rfl)) (fun _ h9 => h9) rfl (by decide +kernel) rfl rfl (Nat.le_of_ble_eq_true rfl) dX1_init_31 (fun H locs hP hD hS => ?_)
  have hP : va_P (dC, dI) vwCl [(q, .inr (1, [.ref qw, .ref qr, .long 0, .int 0, .int 0])), (qw, .inl (cL2, 8192, .inr (.inl (fun _ => 0)))), (qr, .inr (0, [.ref qc, .ref qn])), (qc, .inl (cI, 8, .inl (fun _ => 0))), (qn, .inl (cL2, 8, .inr (.inl (fun _ => 0))))] H := hP
  have hD : va_D A [(q, .inr (1, [.ref qw, .ref qr, .long 0, .int 0, .int 0])), (qw, .inl (cL2, 8192, .inr (.inl (fun _ => 0)))), (qr, .inr (0, [.ref qc, .ref qn])), (qc, .inl (cI, 8, .inl (fun _ => 0))), (qn, .inl (cL2, 8, .inr (.inl (fun _ => 0))))] := hD
  refine lv_aload_n hx hb dX1_init_34 rfl (lv_at hl 0 rfl) ?_
  refine lv_iconst (v := 0) hx hb dX1_init_35 (by decide) ?_
  refine va_put (D := (dC, dI)) (ci := 1) (v := .int 0) (ty := .boolean) (C := RX1) (T := TX1) (N := 5) hx hb hts iwX1 tyX1 tyX1_ok nmX1 hown hK hP hD hS 0 rfl rfl 4 (by decide) (hts (.fieldLink RX1 28 RX1 "mxr" "Z") (wa 50 (by decide +kernel) rfl)) (fun _ h9 => h9) rfl (by decide +kernel) rfl rfl (Nat.le_of_ble_eq_true rfl) dX1_init_36 (fun H locs hP hD hS => ?_)
  have hP : va_P (dC, dI) vwCl [(q, .inr (1, [.ref qw, .ref qr, .long 0, .int 0, .int 0])), (qw, .inl (cL2, 8192, .inr (.inl (fun _ => 0)))), (qr, .inr (0, [.ref qc, .ref qn])), (qc, .inl (cI, 8, .inl (fun _ => 0))), (qn, .inl (cL2, 8, .inr (.inl (fun _ => 0))))] H := hP
  have hD : va_D A [(q, .inr (1, [.ref qw, .ref qr, .long 0, .int 0, .int 0])), (qw, .inl (cL2, 8192, .inr (.inl (fun _ => 0)))), (qr, .inr (0, [.ref qc, .ref qn])), (qc, .inl (cI, 8, .inl (fun _ => 0))), (qn, .inl (cL2, 8, .inr (.inl (fun _ => 0))))] := hD
  have hP9 : va_P (dC, dI) vwCl (wPW cL2 cI q qw qr qc qn (fun _ => 0) 0 false false (fun _ => 0) (fun _ => 0)) H := hP
  have hD9 : va_D A (wPW cL2 cI q qw qr qc qn (fun _ => 0) 0 false false (fun _ => 0) (fun _ => 0)) := hD
  have hK9 : va_K (dC, dI) vwCl [(cL2, .long), (cI, .int)] s := hK
  refine W.widen (k := 4) (n := 8210) (Nat.le_of_ble_eq_true rfl) (Nat.le_of_ble_eq_true rfl) ?_
  exact W.vret hx hb hr (fun t ht hW => ⟨⟨((cL2, cI), qw, qr, qc, qn), rfl, trivial, (by rw [ht]; exact hP9), va_K.moved hW.alike hK9, hD9⟩, hS.F ht⟩) hS.2.2 dX1_init_39
set_option maxHeartbeats 400000 in
set_option maxRecDepth 100000 in
theorem mtX2_init (l : Launch) (dC : Nat → ClassId) (dI : Nat → Nat → Nat) (q hz : Nat) : Met l yX2_init wsX2_init ({ frames := 1, cells := 3, slots := 8208, locals := 12 }) (va_Pc [.ref q] (fun U => U.heap.size = hz ∧ va_P (dC, dI) vwCl [(q, .inr (2, [.int 0, .null, .long 0, .int 0, .int 0, .null, .null, .long 0, .long 0]))] U.heap ∧ va_K (dC, dI) vwCl [] U ∧ va_D (fun _ => True) [(q, .inr (2, [.int 0, .null, .long 0, .int 0, .int 0, .null, .null, .long 0, .long 0]))])) (va_Qv (fun _ : (ClassId × ClassId) × Nat × Nat × Nat => True) (fun u t => va_P (dC, dI) vwCl (wMD u.1.1 u.1.2 q u.2.1 u.2.2.1 u.2.2.2 0 (fun _ => 0) 0 false false (fun _ => 0) (fun _ => 0) 0 0) t.heap ∧ va_K (dC, dI) vwCl [(u.1.1, .long), (u.1.2, .int)] t ∧ va_D (va_A [(q, .inr (2, [.int 0, .null, .long 0, .int 0, .int 0, .null, .null, .long 0, .long 0]))] hz) (wMD u.1.1 u.1.2 q u.2.1 u.2.2.1 u.2.2.2 0 (fun _ => 0) 0 false false (fun _ => 0) (fun _ => 0) 0 0)) (va_A [(q, .inr (2, [.int 0, .null, .long 0, .int 0, .int 0, .null, .null, .long 0, .long 0]))] hz)) 3 8208 (va_A [(q, .inr (2, [.int 0, .null, .long 0, .int 0, .int 0, .null, .null, .long 0, .long 0]))] hz) := by
  refine Met.ofW (cc := cX2_init) (maxL := 1) (ret := none) (by decide) rfl ?_
  intro p e s m args below meth c s₁ B hml hv
  obtain ⟨rfl, hsz, hP, hK, hD0⟩ := hv
  have hx := B.exec
  have hb := B.bytes
  have hr := B.returns
  have hts := atoms_spec (ws := wsX2_init) B.pre
  have hown : s.vm.findClass RX2 = some m.cls := findClass_of_methodNamed B.named
  have hlocks := B.notSynchronized
  have hin : meth.name = "<init>" := (name_of_methodNamed B.named B.method).1
  subst hsz
  have hD := hD0.self (sz := s.heap.size)
  generalize hAe : va_A [(q, .inr (2, [.int 0, .null, .long 0, .int 0, .int 0, .null, .null, .long 0, .long 0]))] s.heap.size = A at hD ⊢
  have hA : ∀ q : Nat, s.heap.size ≤ q → A q := fun q h => by rw [← hAe]; exact Or.inr h
  have hS : va_S A s.heap s.heap [] := va_S.rf
  have hP : va_P (dC, dI) vwCl [(q, .inr (2, [.int 0, .null, .long 0, .int 0, .int 0, .null, .null, .long 0, .long 0]))] s.heap := hP
  have hD : va_D A [(q, .inr (2, [.int 0, .null, .long 0, .int 0, .int 0, .null, .null, .long 0, .long 0]))] := hD
  have hl := lv_entry ([.ref q]) (n := 1) (Nat.le_of_ble_eq_true rfl)
  rw [lg_entry_eq]
  generalize (lg_sl ([.ref q]) ++ List.replicate (1 - (lg_sl ([.ref q])).length) Slot.unset).toArray = ls at hl ⊢
  have hl : lv_has ls 1 [(0, .ref q)] := hl
  refine lv_aload_n hx hb dX2_init_0 rfl (lv_at hl 0 rfl) ?_
  refine W.objInit hx hb hown (hts (.methodLink RX2 1 objectInit) (wa 354 (by decide +kernel) rfl)) (hts (.instanceMethod objectInit) (wa 29 (by decide +kernel) rfl)) (hts (.code objectInit object_method_1_code 1 none) (wa 30 (by decide +kernel) rfl)) rfl (by rw [hml]; exact hl.1) rfl dX2_init_1 (Nat.le_of_ble_eq_true rfl) (Nat.le_of_ble_eq_true rfl) ?_
  refine W.eq (g2 := F0 m 4 ls []) rfl ?_
  refine lv_aload_n hx hb dX2_init_4 rfl (lv_at hl 0 rfl) ?_
  refine lv_sipush (v := 8192) hx hb dX2_init_5 (by decide) ?_
  refine va_newa (atype := .long) (a0 := (8192, .inr (.inl (fun _ => 0)))) (N' := 8192) hx hb (hts (.arrayClass .long) (wa 44 (by decide +kernel) rfl)) rfl hK hP hD hS hA na_l (by decide) (by decide +kernel) (Nat.le_of_ble_eq_true rfl) (Nat.le_of_ble_eq_true rfl) (Nat.le_of_ble_eq_true rfl) dX2_init_8 (fun gm cL H hK hP hD hS => ?_)
  have hK : va_K (dC, dI) vwCl [(cL, .long)] s := hK
  have hP : va_P (dC, dI) vwCl [(q, .inr (2, [.int 0, .null, .long 0, .int 0, .int 0, .null, .null, .long 0, .long 0])), (gm, .inl (cL, 8192, .inr (.inl (fun _ => 0))))] H := hP
  have hD : va_D A [(q, .inr (2, [.int 0, .null, .long 0, .int 0, .int 0, .null, .null, .long 0, .long 0])), (gm, .inl (cL, 8192, .inr (.inl (fun _ => 0))))] := hD
  refine va_putF (D := (dC, dI)) (ci := 2) (v := .ref gm) (ty := .array .long) (C := RX2) (T := TX2) (N := 9) hx hb hts iwX2 tyX2 tyX2_ok nmX2 hown hK hP hD hS 0 rfl rfl 1 (by decide) (hts (.fieldLink RX2 7 RX2 "memory" "[J") (wa 356 (by decide +kernel) rfl)) (fun _ h9 => h9) rfl hin rfl (by decide +kernel) rfl rfl (Nat.le_of_ble_eq_true rfl) dX2_init_10 (fun H locs hP hD hS => ?_)
  have hP : va_P (dC, dI) vwCl [(q, .inr (2, [.int 0, .ref gm, .long 0, .int 0, .int 0, .null, .null, .long 0, .long 0])), (gm, .inl (cL, 8192, .inr (.inl (fun _ => 0))))] H := hP
  have hD : va_D A [(q, .inr (2, [.int 0, .ref gm, .long 0, .int 0, .int 0, .null, .null, .long 0, .long 0])), (gm, .inl (cL, 8192, .inr (.inl (fun _ => 0))))] := hD
  refine lv_aload_n hx hb dX2_init_13 rfl (lv_at hl 0 rfl) ?_
  refine lv_bipush (v := 8) hx hb dX2_init_14 (by decide) ?_
  refine va_newa (atype := .int) (a0 := (8, .inl (fun _ => 0))) (N' := 8) hx hb (hts (.arrayClass .int) (wa 45 (by decide +kernel) rfl)) rfl hK hP hD hS hA na_i (by decide) (by decide +kernel) (Nat.le_of_ble_eq_true rfl) (Nat.le_of_ble_eq_true rfl) (Nat.le_of_ble_eq_true rfl) dX2_init_16 (fun gc cI H hK hP hD hS => ?_)
  have hK : va_K (dC, dI) vwCl [(cL, .long), (cI, .int)] s := hK
  have hP : va_P (dC, dI) vwCl [(q, .inr (2, [.int 0, .ref gm, .long 0, .int 0, .int 0, .null, .null, .long 0, .long 0])), (gm, .inl (cL, 8192, .inr (.inl (fun _ => 0)))), (gc, .inl (cI, 8, .inl (fun _ => 0)))] H := hP
  have hD : va_D A [(q, .inr (2, [.int 0, .ref gm, .long 0, .int 0, .int 0, .null, .null, .long 0, .long 0])), (gm, .inl (cL, 8192, .inr (.inl (fun _ => 0)))), (gc, .inl (cI, 8, .inl (fun _ => 0)))] := hD
  refine va_putF (D := (dC, dI)) (ci := 2) (v := .ref gc) (ty := .array .int) (C := RX2) (T := TX2) (N := 9) hx hb hts iwX2 tyX2 tyX2_ok nmX2 hown hK hP hD hS 0 rfl rfl 5 (by decide) (hts (.fieldLink RX2 13 RX2 "configs" "[I") (wa 360 (by decide +kernel) rfl)) (fun _ h9 => h9) rfl hin rfl (by decide +kernel) rfl rfl (Nat.le_of_ble_eq_true rfl) dX2_init_18 (fun H locs hP hD hS => ?_)
  have hP : va_P (dC, dI) vwCl [(q, .inr (2, [.int 0, .ref gm, .long 0, .int 0, .int 0, .ref gc, .null, .long 0, .long 0])), (gm, .inl (cL, 8192, .inr (.inl (fun _ => 0)))), (gc, .inl (cI, 8, .inl (fun _ => 0)))] H := hP
  have hD : va_D A [(q, .inr (2, [.int 0, .ref gm, .long 0, .int 0, .int 0, .ref gc, .null, .long 0, .long 0])), (gm, .inl (cL, 8192, .inr (.inl (fun _ => 0)))), (gc, .inl (cI, 8, .inl (fun _ => 0)))] := hD
  refine lv_aload_n hx hb dX2_init_21 rfl (lv_at hl 0 rfl) ?_
  refine lv_bipush (v := 8) hx hb dX2_init_22 (by decide) ?_
  refine va_newa (atype := .long) (a0 := (8, .inr (.inl (fun _ => 0)))) (N' := 8) hx hb (hts (.arrayClass .long) (wa 44 (by decide +kernel) rfl)) rfl hK hP hD hS hA na_l (by decide) (by decide +kernel) (Nat.le_of_ble_eq_true rfl) (Nat.le_of_ble_eq_true rfl) (Nat.le_of_ble_eq_true rfl) dX2_init_24 (fun gn cL3 H hK hP hD hS => ?_)
  have hK : va_K (dC, dI) vwCl [(cL, .long), (cI, .int), (cL3, .long)] s := hK
  have hP : va_P (dC, dI) vwCl [(q, .inr (2, [.int 0, .ref gm, .long 0, .int 0, .int 0, .ref gc, .null, .long 0, .long 0])), (gm, .inl (cL, 8192, .inr (.inl (fun _ => 0)))), (gc, .inl (cI, 8, .inl (fun _ => 0))), (gn, .inl (cL3, 8, .inr (.inl (fun _ => 0))))] H := hP
  have hD : va_D A [(q, .inr (2, [.int 0, .ref gm, .long 0, .int 0, .int 0, .ref gc, .null, .long 0, .long 0])), (gm, .inl (cL, 8192, .inr (.inl (fun _ => 0)))), (gc, .inl (cI, 8, .inl (fun _ => 0))), (gn, .inl (cL3, 8, .inr (.inl (fun _ => 0))))] := hD
  refine va_putF (D := (dC, dI)) (ci := 2) (v := .ref gn) (ty := .array .long) (C := RX2) (T := TX2) (N := 9) hx hb hts iwX2 tyX2 tyX2_ok nmX2 hown hK hP hD hS 0 rfl rfl 6 (by decide) (hts (.fieldLink RX2 17 RX2 "numbers" "[J") (wa 361 (by decide +kernel) rfl)) (fun _ h9 => h9) rfl hin rfl (by decide +kernel) rfl rfl (Nat.le_of_ble_eq_true rfl) dX2_init_26 (fun H locs hP hD hS => ?_)
  have hP : va_P (dC, dI) vwCl [(q, .inr (2, [.int 0, .ref gm, .long 0, .int 0, .int 0, .ref gc, .ref gn, .long 0, .long 0])), (gm, .inl (cL, 8192, .inr (.inl (fun _ => 0)))), (gc, .inl (cI, 8, .inl (fun _ => 0))), (gn, .inl (cL3, 8, .inr (.inl (fun _ => 0))))] H := hP
  have hD : va_D A [(q, .inr (2, [.int 0, .ref gm, .long 0, .int 0, .int 0, .ref gc, .ref gn, .long 0, .long 0])), (gm, .inl (cL, 8192, .inr (.inl (fun _ => 0)))), (gc, .inl (cI, 8, .inl (fun _ => 0))), (gn, .inl (cL3, 8, .inr (.inl (fun _ => 0))))] := hD
  have hP9 : va_P (dC, dI) vwCl (wMD cL cI q gm gc gn 0 (fun _ => 0) 0 false false (fun _ => 0) (fun _ => 0) 0 0) H := (by have ec : cL3 = cL := ra_long hK hK 2 0 rfl rfl; subst ec; exact hP)
  have hD9 : va_D A (wMD cL cI q gm gc gn 0 (fun _ => 0) 0 false false (fun _ => 0) (fun _ => 0) 0 0) := (by have ec : cL3 = cL := ra_long hK hK 2 0 rfl rfl; subst ec; exact hD)
  have hK9 : va_K (dC, dI) vwCl [(cL, .long), (cI, .int)] s := hK.sub [0, 1] rfl
  refine W.widen (k := 3) (n := 8208) (Nat.le_of_ble_eq_true rfl) (Nat.le_of_ble_eq_true rfl) ?_
  exact W.vret hx hb hr (fun t ht hW => ⟨⟨((cL, cI), gm, gc, gn), rfl, trivial, (by rw [ht]; exact hP9), va_K.moved hW.alike hK9, hD9⟩, hS.F ht⟩) hS.2.2 dX2_init_29
