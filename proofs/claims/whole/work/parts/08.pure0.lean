set_option maxHeartbeats 4000000 in
set_option maxRecDepth 100000 in
theorem mtX0_legalConfig (l : Launch) (cg : Int32) : Met l yX0_legalConfig wsX0_legalConfig ({ frames := 0, cells := 0, slots := 0, locals := 0 }) (fun v _ => v = ([.int cg] : List Value).toArray) (vp_Si (fun r => r = k_legalConfig cg)) 0 0 (fun _ => False) := by
  refine Met.ofW (cc := cX0_legalConfig) (maxL := 2) (ret := (some .int)) (by decide) rfl ?_
  intro p e s m args below meth c s₁ B hml hv
  have hv : args = ([.int cg] : List Value).toArray := hv
  subst hv
  have hx := B.exec
  have hb := B.bytes
  have hr := B.returns
  have hts := atoms_spec (ws := wsX0_legalConfig) B.pre
  have hown : s.vm.findClass RX0 = some m.cls := findClass_of_methodNamed B.named
  have hlocks := B.notSynchronized
  have hl := lv_entry ([.int cg]) (n := 2) (Nat.le_of_ble_eq_true rfl)
  rw [lg_entry_eq]
  generalize (lg_sl ([.int cg]) ++ List.replicate (2 - (lg_sl ([.int cg])).length) Slot.unset).toArray = ls at hl ⊢
  have hl : lv_has ls 2 [(0, .int cg)] := hl
  refine lv_iload_n hx hb dX0_legalConfig_0 rfl (lv_at hl 0 rfl) ?_
  refine lv_sipush (v := 159) hx hb dX0_legalConfig_1 (by decide) ?_
  refine lv_iand hx hb dX0_legalConfig_4 ?_
  refine lv_istore_n (lv' := [(1, .int (cg &&& 159)), (0, .int cg)]) hx hb dX0_legalConfig_5 rfl hl (by decide) rfl (fun ls hl => ?_)
  refine lv_iload_n hx hb dX0_legalConfig_6 rfl (lv_at hl 0 rfl) ?_
  refine lv_iconst (v := 1) hx hb dX0_legalConfig_7 (by decide) ?_
  refine lv_iand hx hb dX0_legalConfig_8 ?_
  refine lv_if_ne (tgt := 19) hx hb dX0_legalConfig_9 (by decide) (fun c_1 => ?_) (fun c_1 => ?_)
  · refine lv_iload_n hx hb dX0_legalConfig_19 rfl (lv_at hl 0 rfl) ?_
    exact W.iret (v := (cg &&& 159)) hx hb hr (fun t ht hW => ⟨(cg &&& 159), rfl, (by first | rfl | (simp only [k_legalConfig, c_1, b2i, decide_true, decide_false, Bool.not_true, Bool.not_false, Bool.and_true, Bool.and_false, Bool.true_and, Bool.false_and, Bool.or_true, Bool.or_false, Bool.true_or, Bool.false_or, reduceIte, or_true, true_or, or_false, false_or, and_true, true_and, and_false, false_and, not_true_eq_false, not_false_eq_true, Bool.false_eq_true, eq_self]; done) | (simp [k_legalConfig, c_1]; done)), ht⟩) (fun _ h => nomatch h) dX0_legalConfig_20
  · refine lv_iload_n hx hb dX0_legalConfig_12 rfl (lv_at hl 0 rfl) ?_
    refine lv_bipush (v := (-3)) hx hb dX0_legalConfig_13 (by decide) ?_
    refine lv_iand hx hb dX0_legalConfig_15 ?_
    refine lv_goto (tgt := 20) hx hb dX0_legalConfig_16 (by decide) ?_
    exact W.iret (v := ((cg &&& 159) &&& (-3))) hx hb hr (fun t ht hW => ⟨((cg &&& 159) &&& (-3)), rfl, (by first | rfl | (simp only [k_legalConfig, c_1, b2i, decide_true, decide_false, Bool.not_true, Bool.not_false, Bool.and_true, Bool.and_false, Bool.true_and, Bool.false_and, Bool.or_true, Bool.or_false, Bool.true_or, Bool.false_or, reduceIte, or_true, true_or, or_false, false_or, and_true, true_and, and_false, false_and, not_true_eq_false, not_false_eq_true, Bool.false_eq_true, eq_self]; done) | (simp [k_legalConfig, c_1]; done)), ht⟩) (fun _ h => nomatch h) dX0_legalConfig_20
set_option maxHeartbeats 4000000 in
set_option maxRecDepth 100000 in
theorem mtX0_isLocked (l : Launch) (cg : Int32) : Met l yX0_isLocked wsX0_isLocked ({ frames := 0, cells := 0, slots := 0, locals := 0 }) (fun v _ => v = ([.int cg] : List Value).toArray) (vp_Si (fun r => r = b2i (k_isLocked cg))) 0 0 (fun _ => False) := by
  refine Met.ofW (cc := cX0_isLocked) (maxL := 1) (ret := (some .boolean)) (by decide) rfl ?_
  intro p e s m args below meth c s₁ B hml hv
  have hv : args = ([.int cg] : List Value).toArray := hv
  subst hv
  have hx := B.exec
  have hb := B.bytes
  have hr := B.returns
  have hts := atoms_spec (ws := wsX0_isLocked) B.pre
  have hown : s.vm.findClass RX0 = some m.cls := findClass_of_methodNamed B.named
  have hlocks := B.notSynchronized
  have hl := lv_entry ([.int cg]) (n := 1) (Nat.le_of_ble_eq_true rfl)
  rw [lg_entry_eq]
  generalize (lg_sl ([.int cg]) ++ List.replicate (1 - (lg_sl ([.int cg])).length) Slot.unset).toArray = ls at hl ⊢
  have hl : lv_has ls 1 [(0, .int cg)] := hl
  refine lv_iload_n hx hb dX0_isLocked_0 rfl (lv_at hl 0 rfl) ?_
  refine lv_sipush (v := 128) hx hb dX0_isLocked_1 (by decide) ?_
  refine lv_iand hx hb dX0_isLocked_4 ?_
  refine lv_if_eq (tgt := 12) hx hb dX0_isLocked_5 (by decide) (fun c_1 => ?_) (fun c_1 => ?_)
  · refine lv_iconst (v := 0) hx hb dX0_isLocked_12 (by decide) ?_
    exact W.zret (v := 0) hx hb hr rfl (fun t ht hW => ⟨0, rfl, (by first | rfl | (simp only [k_isLocked, b2i, c_1, b2i, decide_true, decide_false, Bool.not_true, Bool.not_false, Bool.and_true, Bool.and_false, Bool.true_and, Bool.false_and, Bool.or_true, Bool.or_false, Bool.true_or, Bool.false_or, reduceIte, or_true, true_or, or_false, false_or, and_true, true_and, and_false, false_and, not_true_eq_false, not_false_eq_true, Bool.false_eq_true, eq_self]; done) | (simp [k_isLocked, b2i, c_1]; done)), ht⟩) (fun _ h => nomatch h) dX0_isLocked_13
  · refine lv_iconst (v := 1) hx hb dX0_isLocked_8 (by decide) ?_
    refine lv_goto (tgt := 13) hx hb dX0_isLocked_9 (by decide) ?_
    exact W.zret (v := 1) hx hb hr rfl (fun t ht hW => ⟨1, rfl, (by first | rfl | (simp only [k_isLocked, b2i, c_1, b2i, decide_true, decide_false, Bool.not_true, Bool.not_false, Bool.and_true, Bool.and_false, Bool.true_and, Bool.false_and, Bool.or_true, Bool.or_false, Bool.true_or, Bool.false_or, reduceIte, or_true, true_or, or_false, false_or, and_true, true_and, and_false, false_and, not_true_eq_false, not_false_eq_true, Bool.false_eq_true, eq_self]; done) | (simp [k_isLocked, b2i, c_1]; done)), ht⟩) (fun _ h => nomatch h) dX0_isLocked_13
set_option maxHeartbeats 4000000 in
set_option maxRecDepth 100000 in
theorem mtX0_kindOf (l : Launch) (cg : Int32) : Met l yX0_kindOf wsX0_kindOf ({ frames := 0, cells := 0, slots := 0, locals := 0 }) (fun v _ => v = ([.int cg] : List Value).toArray) (vp_Si (fun r => r = k_kindOf cg)) 0 0 (fun _ => False) := by
  refine Met.ofW (cc := cX0_kindOf) (maxL := 1) (ret := (some .int)) (by decide) rfl ?_
  intro p e s m args below meth c s₁ B hml hv
  have hv : args = ([.int cg] : List Value).toArray := hv
  subst hv
  have hx := B.exec
  have hb := B.bytes
  have hr := B.returns
  have hts := atoms_spec (ws := wsX0_kindOf) B.pre
  have hown : s.vm.findClass RX0 = some m.cls := findClass_of_methodNamed B.named
  have hlocks := B.notSynchronized
  have hl := lv_entry ([.int cg]) (n := 1) (Nat.le_of_ble_eq_true rfl)
  rw [lg_entry_eq]
  generalize (lg_sl ([.int cg]) ++ List.replicate (1 - (lg_sl ([.int cg])).length) Slot.unset).toArray = ls at hl ⊢
  have hl : lv_has ls 1 [(0, .int cg)] := hl
  refine lv_iload_n hx hb dX0_kindOf_0 rfl (lv_at hl 0 rfl) ?_
  refine lv_iconst (v := 3) hx hb dX0_kindOf_1 (by decide) ?_
  refine lv_ishr hx hb dX0_kindOf_2 ?_
  refine lv_iconst (v := 3) hx hb dX0_kindOf_3 (by decide) ?_
  refine lv_iand hx hb dX0_kindOf_4 ?_
  exact W.iret (v := ((cg >>> (3 &&& 31)) &&& 3)) hx hb hr (fun t ht hW => ⟨((cg >>> (3 &&& 31)) &&& 3), rfl, (by first | rfl | (simp only [k_kindOf, b2i, decide_true, decide_false, Bool.not_true, Bool.not_false, Bool.and_true, Bool.and_false, Bool.true_and, Bool.false_and, Bool.or_true, Bool.or_false, Bool.true_or, Bool.false_or, reduceIte, or_true, true_or, or_false, false_or, and_true, true_and, and_false, false_and, not_true_eq_false, not_false_eq_true, Bool.false_eq_true, eq_self]; done) | (simp [k_kindOf]; done)), ht⟩) (fun _ h => nomatch h) dX0_kindOf_5
set_option maxHeartbeats 4000000 in
set_option maxRecDepth 100000 in
theorem mtX0_fixesNumberBefore (l : Launch) (cg : Int32) : Met l yX0_fixesNumberBefore wsX0_fixesNumberBefore ({ frames := 1, cells := 0, slots := 0, locals := 20 }) (fun v _ => v = ([.int cg] : List Value).toArray) (vp_Si (fun r => r = b2i (k_fixes cg))) 0 0 (fun _ => False) := by
  refine Met.ofW (cc := cX0_fixesNumberBefore) (maxL := 1) (ret := (some .boolean)) (by decide) rfl ?_
  intro p e s m args below meth c s₁ B hml hv
  have hv : args = ([.int cg] : List Value).toArray := hv
  subst hv
  have hx := B.exec
  have hb := B.bytes
  have hr := B.returns
  have hts := atoms_spec (ws := wsX0_fixesNumberBefore) B.pre
  have hown : s.vm.findClass RX0 = some m.cls := findClass_of_methodNamed B.named
  have hlocks := B.notSynchronized
  have hl := lv_entry ([.int cg]) (n := 1) (Nat.le_of_ble_eq_true rfl)
  rw [lg_entry_eq]
  generalize (lg_sl ([.int cg]) ++ List.replicate (1 - (lg_sl ([.int cg])).length) Slot.unset).toArray = ls at hl ⊢
  have hl : lv_has ls 1 [(0, .int cg)] := hl
  refine lv_iload_n hx hb dX0_fixesNumberBefore_0 rfl (lv_at hl 0 rfl) ?_
  refine vp_callSi (W.runS (As := [.int cg]) (rest := []) ⟨hx, hb, hml, hown, hts⟩ (mtX0_isLocked l cg) (va_cwS 1 hts (gAll (mc1 (wa 86 (by decide +kernel) rfl) (mc1 (wa 87 (by decide +kernel) rfl) (mc1 (wa 16 (by decide +kernel) rfl) mc0))) (wa 88 (by decide +kernel) rfl) (by decide +kernel)) rfl rfl rfl (by decide +kernel) ⟨Nat.le_of_ble_eq_true rfl, Nat.le_of_ble_eq_true rfl⟩) preEq rfl rfl hl.1 rfl (lv_room (Nat.le_of_ble_eq_true rfl)) dX0_fixesNumberBefore_1 ⟨Nat.le_of_ble_eq_true rfl, Nat.le_of_ble_eq_true rfl⟩) (fun r_1 er_1 => ?_)
  have er_1 : r_1 = (b2i (k_isLocked cg)) := er_1
  subst er_1
  refine lv_if_eq (tgt := 19) hx hb dX0_fixesNumberBefore_4 (by decide) (fun c_2 => ?_) (fun c_2 => ?_)
  · rw [b2i_z] at c_2
    refine lv_iconst (v := 0) hx hb dX0_fixesNumberBefore_19 (by decide) ?_
    exact W.zret (v := 0) hx hb hr rfl (fun t ht hW => ⟨0, rfl, (by first | rfl | (simp only [k_fixes, b2i, c_2, b2i, decide_true, decide_false, Bool.not_true, Bool.not_false, Bool.and_true, Bool.and_false, Bool.true_and, Bool.false_and, Bool.or_true, Bool.or_false, Bool.true_or, Bool.false_or, reduceIte, or_true, true_or, or_false, false_or, and_true, true_and, and_false, false_and, not_true_eq_false, not_false_eq_true, Bool.false_eq_true, eq_self]; done) | (simp [k_fixes, b2i, c_2]; done)), ht⟩) (fun _ h => nomatch h) dX0_fixesNumberBefore_20
  · rw [b2i_z] at c_2
    rw [Bool.not_eq_false] at c_2
    refine lv_iload_n hx hb dX0_fixesNumberBefore_7 rfl (lv_at hl 0 rfl) ?_
    refine vp_callSi (W.runS (As := [.int cg]) (rest := []) ⟨hx, hb, hml, hown, hts⟩ (mtX0_kindOf l cg) (va_cwS 1 hts (gAll (mc1 (wa 239 (by decide +kernel) rfl) (mc1 (wa 240 (by decide +kernel) rfl) (mc1 (wa 16 (by decide +kernel) rfl) mc0))) (wa 241 (by decide +kernel) rfl) (by decide +kernel)) rfl rfl rfl (by decide +kernel) ⟨Nat.le_of_ble_eq_true rfl, Nat.le_of_ble_eq_true rfl⟩) preEq rfl rfl hl.1 rfl (lv_room (Nat.le_of_ble_eq_true rfl)) dX0_fixesNumberBefore_8 ⟨Nat.le_of_ble_eq_true rfl, Nat.le_of_ble_eq_true rfl⟩) (fun r_3 er_3 => ?_)
    have er_3 : r_3 = (k_kindOf cg) := er_3
    subst er_3
    refine lv_iconst (v := 1) hx hb dX0_fixesNumberBefore_11 (by decide) ?_
    refine lv_icmp_ne (tgt := 19) hx hb dX0_fixesNumberBefore_12 (by decide) (fun c_4 => ?_) (fun c_4 => ?_)
    · refine lv_iconst (v := 0) hx hb dX0_fixesNumberBefore_19 (by decide) ?_
      exact W.zret (v := 0) hx hb hr rfl (fun t ht hW => ⟨0, rfl, (by first | rfl | (simp only [k_fixes, b2i, c_2, c_4, b2i, decide_true, decide_false, Bool.not_true, Bool.not_false, Bool.and_true, Bool.and_false, Bool.true_and, Bool.false_and, Bool.or_true, Bool.or_false, Bool.true_or, Bool.false_or, reduceIte, or_true, true_or, or_false, false_or, and_true, true_and, and_false, false_and, not_true_eq_false, not_false_eq_true, Bool.false_eq_true, eq_self]; done) | (simp [k_fixes, b2i, c_2, c_4]; done)), ht⟩) (fun _ h => nomatch h) dX0_fixesNumberBefore_20
    · refine lv_iconst (v := 1) hx hb dX0_fixesNumberBefore_15 (by decide) ?_
      refine lv_goto (tgt := 20) hx hb dX0_fixesNumberBefore_16 (by decide) ?_
      exact W.zret (v := 1) hx hb hr rfl (fun t ht hW => ⟨1, rfl, (by first | rfl | (simp only [k_fixes, b2i, c_2, c_4, b2i, decide_true, decide_false, Bool.not_true, Bool.not_false, Bool.and_true, Bool.and_false, Bool.true_and, Bool.false_and, Bool.or_true, Bool.or_false, Bool.true_or, Bool.false_or, reduceIte, or_true, true_or, or_false, false_or, and_true, true_and, and_false, false_and, not_true_eq_false, not_false_eq_true, Bool.false_eq_true, eq_self]; done) | (simp [k_fixes, b2i, c_2, c_4]; done)), ht⟩) (fun _ h => nomatch h) dX0_fixesNumberBefore_20
set_option maxHeartbeats 4000000 in
set_option maxRecDepth 100000 in
theorem mtX0_permits (l : Launch) (cg : Int32) (ac : Int32) (md : Int32) : Met l yX0_permits wsX0_permits ({ frames := 1, cells := 0, slots := 0, locals := 20 }) (fun v _ => v = ([.int cg, .int ac, .int md] : List Value).toArray) (vp_Si (fun r => r = b2i (k_permits cg ac md))) 0 0 (fun _ => False) := by
  refine Met.ofW (cc := cX0_permits) (maxL := 4) (ret := (some .boolean)) (by decide) rfl ?_
  intro p e s m args below meth c s₁ B hml hv
  have hv : args = ([.int cg, .int ac, .int md] : List Value).toArray := hv
  subst hv
  have hx := B.exec
  have hb := B.bytes
  have hr := B.returns
  have hts := atoms_spec (ws := wsX0_permits) B.pre
  have hown : s.vm.findClass RX0 = some m.cls := findClass_of_methodNamed B.named
  have hlocks := B.notSynchronized
  have hl := lv_entry ([.int cg, .int ac, .int md]) (n := 4) (Nat.le_of_ble_eq_true rfl)
  rw [lg_entry_eq]
  generalize (lg_sl ([.int cg, .int ac, .int md]) ++ List.replicate (4 - (lg_sl ([.int cg, .int ac, .int md])).length) Slot.unset).toArray = ls at hl ⊢
  have hl : lv_has ls 4 [(0, .int cg), (1, .int ac), (2, .int md)] := hl
  refine lv_iload_n hx hb dX0_permits_0 rfl (lv_at hl 2 rfl) ?_
  refine lv_iconst (v := 3) hx hb dX0_permits_1 (by decide) ?_
  refine lv_icmp_ne (tgt := 14) hx hb dX0_permits_2 (by decide) (fun c_1 => ?_) (fun c_1 => ?_)
  · refine lv_iload_n hx hb dX0_permits_14 rfl (lv_at hl 1 rfl) ?_
    refine lv_if_ne (tgt := 22) hx hb dX0_permits_15 (by decide) (fun c_2 => ?_) (fun c_2 => ?_)
    · refine lv_iload_n hx hb dX0_permits_22 rfl (lv_at hl 1 rfl) ?_
      refine lv_iconst (v := 1) hx hb dX0_permits_23 (by decide) ?_
      refine lv_icmp_ne (tgt := 31) hx hb dX0_permits_24 (by decide) (fun c_3 => ?_) (fun c_3 => ?_)
      · refine lv_iconst (v := 2) hx hb dX0_permits_31 (by decide) ?_
        refine lv_istore_n (lv' := [(3, .int 2), (0, .int cg), (1, .int ac), (2, .int md)]) hx hb dX0_permits_32 rfl hl (by decide) rfl (fun ls hl => ?_)
        refine lv_iload_n hx hb dX0_permits_33 rfl (lv_at hl 1 rfl) ?_
        refine lv_iload_n hx hb dX0_permits_34 rfl (lv_at hl 0 rfl) ?_
        refine lv_iand hx hb dX0_permits_35 ?_
        refine lv_if_eq (tgt := 43) hx hb dX0_permits_36 (by decide) (fun c_4 => ?_) (fun c_4 => ?_)
        · refine lv_iconst (v := 0) hx hb dX0_permits_43 (by decide) ?_
          exact W.zret (v := 0) hx hb hr rfl (fun t ht hW => ⟨0, rfl, (by first | rfl | (simp only [k_permits, b2i, c_1, c_2, c_3, c_4, b2i, decide_true, decide_false, Bool.not_true, Bool.not_false, Bool.and_true, Bool.and_false, Bool.true_and, Bool.false_and, Bool.or_true, Bool.or_false, Bool.true_or, Bool.false_or, reduceIte, or_true, true_or, or_false, false_or, and_true, true_and, and_false, false_and, not_true_eq_false, not_false_eq_true, Bool.false_eq_true, eq_self]; done) | (simp [k_permits, b2i, c_1, c_2, c_3, c_4]; done)), ht⟩) (fun _ h => nomatch h) dX0_permits_44
        · refine lv_iconst (v := 1) hx hb dX0_permits_39 (by decide) ?_
          refine lv_goto (tgt := 44) hx hb dX0_permits_40 (by decide) ?_
          exact W.zret (v := 1) hx hb hr rfl (fun t ht hW => ⟨1, rfl, (by first | rfl | (simp only [k_permits, b2i, c_1, c_2, c_3, c_4, b2i, decide_true, decide_false, Bool.not_true, Bool.not_false, Bool.and_true, Bool.and_false, Bool.true_and, Bool.false_and, Bool.or_true, Bool.or_false, Bool.true_or, Bool.false_or, reduceIte, or_true, true_or, or_false, false_or, and_true, true_and, and_false, false_and, not_true_eq_false, not_false_eq_true, Bool.false_eq_true, eq_self]; done) | (simp [k_permits, b2i, c_1, c_2, c_3, c_4]; done)), ht⟩) (fun _ h => nomatch h) dX0_permits_44
      · refine lv_iconst (v := 1) hx hb dX0_permits_27 (by decide) ?_
        refine lv_goto (tgt := 32) hx hb dX0_permits_28 (by decide) ?_
        refine lv_istore_n (lv' := [(3, .int 1), (0, .int cg), (1, .int ac), (2, .int md)]) hx hb dX0_permits_32 rfl hl (by decide) rfl (fun ls hl => ?_)
        refine lv_iload_n hx hb dX0_permits_33 rfl (lv_at hl 1 rfl) ?_
        refine lv_iload_n hx hb dX0_permits_34 rfl (lv_at hl 0 rfl) ?_
        refine lv_iand hx hb dX0_permits_35 ?_
        refine lv_if_eq (tgt := 43) hx hb dX0_permits_36 (by decide) (fun c_5 => ?_) (fun c_5 => ?_)
        · refine lv_iconst (v := 0) hx hb dX0_permits_43 (by decide) ?_
          exact W.zret (v := 0) hx hb hr rfl (fun t ht hW => ⟨0, rfl, (by first | rfl | (simp only [k_permits, b2i, c_1, c_2, c_3, c_5, b2i, decide_true, decide_false, Bool.not_true, Bool.not_false, Bool.and_true, Bool.and_false, Bool.true_and, Bool.false_and, Bool.or_true, Bool.or_false, Bool.true_or, Bool.false_or, reduceIte, or_true, true_or, or_false, false_or, and_true, true_and, and_false, false_and, not_true_eq_false, not_false_eq_true, Bool.false_eq_true, eq_self]; done) | (simp [k_permits, b2i, c_1, c_2, c_3, c_5]; done)), ht⟩) (fun _ h => nomatch h) dX0_permits_44
        · refine lv_iconst (v := 1) hx hb dX0_permits_39 (by decide) ?_
          refine lv_goto (tgt := 44) hx hb dX0_permits_40 (by decide) ?_
          exact W.zret (v := 1) hx hb hr rfl (fun t ht hW => ⟨1, rfl, (by first | rfl | (simp only [k_permits, b2i, c_1, c_2, c_3, c_5, b2i, decide_true, decide_false, Bool.not_true, Bool.not_false, Bool.and_true, Bool.and_false, Bool.true_and, Bool.false_and, Bool.or_true, Bool.or_false, Bool.true_or, Bool.false_or, reduceIte, or_true, true_or, or_false, false_or, and_true, true_and, and_false, false_and, not_true_eq_false, not_false_eq_true, Bool.false_eq_true, eq_self]; done) | (simp [k_permits, b2i, c_1, c_2, c_3, c_5]; done)), ht⟩) (fun _ h => nomatch h) dX0_permits_44
    · refine lv_iconst (v := 4) hx hb dX0_permits_18 (by decide) ?_
      refine lv_goto (tgt := 32) hx hb dX0_permits_19 (by decide) ?_
      refine lv_istore_n (lv' := [(3, .int 4), (0, .int cg), (1, .int ac), (2, .int md)]) hx hb dX0_permits_32 rfl hl (by decide) rfl (fun ls hl => ?_)
      refine lv_iload_n hx hb dX0_permits_33 rfl (lv_at hl 1 rfl) ?_
      refine lv_iload_n hx hb dX0_permits_34 rfl (lv_at hl 0 rfl) ?_
      refine lv_iand hx hb dX0_permits_35 ?_
      refine lv_if_eq (tgt := 43) hx hb dX0_permits_36 (by decide) (fun c_6 => ?_) (fun c_6 => ?_)
      · refine lv_iconst (v := 0) hx hb dX0_permits_43 (by decide) ?_
        exact W.zret (v := 0) hx hb hr rfl (fun t ht hW => ⟨0, rfl, (by first | rfl | (simp only [k_permits, b2i, c_1, c_2, c_6, b2i, decide_true, decide_false, Bool.not_true, Bool.not_false, Bool.and_true, Bool.and_false, Bool.true_and, Bool.false_and, Bool.or_true, Bool.or_false, Bool.true_or, Bool.false_or, reduceIte, or_true, true_or, or_false, false_or, and_true, true_and, and_false, false_and, not_true_eq_false, not_false_eq_true, Bool.false_eq_true, eq_self]; done) | (simp [k_permits, b2i, c_1, c_2, c_6]; done)), ht⟩) (fun _ h => nomatch h) dX0_permits_44
      · refine lv_iconst (v := 1) hx hb dX0_permits_39 (by decide) ?_
        refine lv_goto (tgt := 44) hx hb dX0_permits_40 (by decide) ?_
        exact W.zret (v := 1) hx hb hr rfl (fun t ht hW => ⟨1, rfl, (by first | rfl | (simp only [k_permits, b2i, c_1, c_2, c_6, b2i, decide_true, decide_false, Bool.not_true, Bool.not_false, Bool.and_true, Bool.and_false, Bool.true_and, Bool.false_and, Bool.or_true, Bool.or_false, Bool.true_or, Bool.false_or, reduceIte, or_true, true_or, or_false, false_or, and_true, true_and, and_false, false_and, not_true_eq_false, not_false_eq_true, Bool.false_eq_true, eq_self]; done) | (simp [k_permits, b2i, c_1, c_2, c_6]; done)), ht⟩) (fun _ h => nomatch h) dX0_permits_44
  · refine lv_iload_n hx hb dX0_permits_5 rfl (lv_at hl 0 rfl) ?_
    refine vp_callSi (W.runS (As := [.int cg]) (rest := []) ⟨hx, hb, hml, hown, hts⟩ (mtX0_isLocked l cg) (va_cwS 1 hts (gAll (mc1 (wa 86 (by decide +kernel) rfl) (mc1 (wa 87 (by decide +kernel) rfl) (mc1 (wa 16 (by decide +kernel) rfl) mc0))) (wa 88 (by decide +kernel) rfl) (by decide +kernel)) rfl rfl rfl (by decide +kernel) ⟨Nat.le_of_ble_eq_true rfl, Nat.le_of_ble_eq_true rfl⟩) preEq rfl rfl hl.1 rfl (lv_room (Nat.le_of_ble_eq_true rfl)) dX0_permits_6 ⟨Nat.le_of_ble_eq_true rfl, Nat.le_of_ble_eq_true rfl⟩) (fun r_7 er_7 => ?_)
    have er_7 : r_7 = (b2i (k_isLocked cg)) := er_7
    subst er_7
    refine lv_if_ne (tgt := 14) hx hb dX0_permits_9 (by decide) (fun c_8 => ?_) (fun c_8 => ?_)
    · rw [b2i_z] at c_8
      rw [Bool.not_eq_false] at c_8
      refine lv_iload_n hx hb dX0_permits_14 rfl (lv_at hl 1 rfl) ?_
      refine lv_if_ne (tgt := 22) hx hb dX0_permits_15 (by decide) (fun c_9 => ?_) (fun c_9 => ?_)
      · refine lv_iload_n hx hb dX0_permits_22 rfl (lv_at hl 1 rfl) ?_
        refine lv_iconst (v := 1) hx hb dX0_permits_23 (by decide) ?_
        refine lv_icmp_ne (tgt := 31) hx hb dX0_permits_24 (by decide) (fun c_10 => ?_) (fun c_10 => ?_)
        · refine lv_iconst (v := 2) hx hb dX0_permits_31 (by decide) ?_
          refine lv_istore_n (lv' := [(3, .int 2), (0, .int cg), (1, .int ac), (2, .int md)]) hx hb dX0_permits_32 rfl hl (by decide) rfl (fun ls hl => ?_)
          refine lv_iload_n hx hb dX0_permits_33 rfl (lv_at hl 1 rfl) ?_
          refine lv_iload_n hx hb dX0_permits_34 rfl (lv_at hl 0 rfl) ?_
          refine lv_iand hx hb dX0_permits_35 ?_
          refine lv_if_eq (tgt := 43) hx hb dX0_permits_36 (by decide) (fun c_11 => ?_) (fun c_11 => ?_)
          · refine lv_iconst (v := 0) hx hb dX0_permits_43 (by decide) ?_
            exact W.zret (v := 0) hx hb hr rfl (fun t ht hW => ⟨0, rfl, (by first | rfl | (simp only [k_permits, b2i, c_1, c_8, c_9, c_10, c_11, b2i, decide_true, decide_false, Bool.not_true, Bool.not_false, Bool.and_true, Bool.and_false, Bool.true_and, Bool.false_and, Bool.or_true, Bool.or_false, Bool.true_or, Bool.false_or, reduceIte, or_true, true_or, or_false, false_or, and_true, true_and, and_false, false_and, not_true_eq_false, not_false_eq_true, Bool.false_eq_true, eq_self]; done) | (simp [k_permits, b2i, c_1, c_8, c_9, c_10, c_11]; done)), ht⟩) (fun _ h => nomatch h) dX0_permits_44
          · refine lv_iconst (v := 1) hx hb dX0_permits_39 (by decide) ?_
            refine lv_goto (tgt := 44) hx hb dX0_permits_40 (by decide) ?_
            exact W.zret (v := 1) hx hb hr rfl (fun t ht hW => ⟨1, rfl, (by first | rfl | (simp only [k_permits, b2i, c_1, c_8, c_9, c_10, c_11, b2i, decide_true, decide_false, Bool.not_true, Bool.not_false, Bool.and_true, Bool.and_false, Bool.true_and, Bool.false_and, Bool.or_true, Bool.or_false, Bool.true_or, Bool.false_or, reduceIte, or_true, true_or, or_false, false_or, and_true, true_and, and_false, false_and, not_true_eq_false, not_false_eq_true, Bool.false_eq_true, eq_self]; done) | (simp [k_permits, b2i, c_1, c_8, c_9, c_10, c_11]; done)), ht⟩) (fun _ h => nomatch h) dX0_permits_44
        · refine lv_iconst (v := 1) hx hb dX0_permits_27 (by decide) ?_
          refine lv_goto (tgt := 32) hx hb dX0_permits_28 (by decide) ?_
          refine lv_istore_n (lv' := [(3, .int 1), (0, .int cg), (1, .int ac), (2, .int md)]) hx hb dX0_permits_32 rfl hl (by decide) rfl (fun ls hl => ?_)
          refine lv_iload_n hx hb dX0_permits_33 rfl (lv_at hl 1 rfl) ?_
          refine lv_iload_n hx hb dX0_permits_34 rfl (lv_at hl 0 rfl) ?_
          refine lv_iand hx hb dX0_permits_35 ?_
          refine lv_if_eq (tgt := 43) hx hb dX0_permits_36 (by decide) (fun c_12 => ?_) (fun c_12 => ?_)
          · refine lv_iconst (v := 0) hx hb dX0_permits_43 (by decide) ?_
            exact W.zret (v := 0) hx hb hr rfl (fun t ht hW => ⟨0, rfl, (by first | rfl | (simp only [k_permits, b2i, c_1, c_8, c_9, c_10, c_12, b2i, decide_true, decide_false, Bool.not_true, Bool.not_false, Bool.and_true, Bool.and_false, Bool.true_and, Bool.false_and, Bool.or_true, Bool.or_false, Bool.true_or, Bool.false_or, reduceIte, or_true, true_or, or_false, false_or, and_true, true_and, and_false, false_and, not_true_eq_false, not_false_eq_true, Bool.false_eq_true, eq_self]; done) | (simp [k_permits, b2i, c_1, c_8, c_9, c_10, c_12]; done)), ht⟩) (fun _ h => nomatch h) dX0_permits_44
          · refine lv_iconst (v := 1) hx hb dX0_permits_39 (by decide) ?_
            refine lv_goto (tgt := 44) hx hb dX0_permits_40 (by decide) ?_
            exact W.zret (v := 1) hx hb hr rfl (fun t ht hW => ⟨1, rfl, (by first | rfl | (simp only [k_permits, b2i, c_1, c_8, c_9, c_10, c_12, b2i, decide_true, decide_false, Bool.not_true, Bool.not_false, Bool.and_true, Bool.and_false, Bool.true_and, Bool.false_and, Bool.or_true, Bool.or_false, Bool.true_or, Bool.false_or, reduceIte, or_true, true_or, or_false, false_or, and_true, true_and, and_false, false_and, not_true_eq_false, not_false_eq_true, Bool.false_eq_true, eq_self]; done) | (simp [k_permits, b2i, c_1, c_8, c_9, c_10, c_12]; done)), ht⟩) (fun _ h => nomatch h) dX0_permits_44
      · refine lv_iconst (v := 4) hx hb dX0_permits_18 (by decide) ?_
        refine lv_goto (tgt := 32) hx hb dX0_permits_19 (by decide) ?_
        refine lv_istore_n (lv' := [(3, .int 4), (0, .int cg), (1, .int ac), (2, .int md)]) hx hb dX0_permits_32 rfl hl (by decide) rfl (fun ls hl => ?_)
        refine lv_iload_n hx hb dX0_permits_33 rfl (lv_at hl 1 rfl) ?_
        refine lv_iload_n hx hb dX0_permits_34 rfl (lv_at hl 0 rfl) ?_
        refine lv_iand hx hb dX0_permits_35 ?_
        refine lv_if_eq (tgt := 43) hx hb dX0_permits_36 (by decide) (fun c_13 => ?_) (fun c_13 => ?_)
        · refine lv_iconst (v := 0) hx hb dX0_permits_43 (by decide) ?_
          exact W.zret (v := 0) hx hb hr rfl (fun t ht hW => ⟨0, rfl, (by first | rfl | (simp only [k_permits, b2i, c_1, c_8, c_9, c_13, b2i, decide_true, decide_false, Bool.not_true, Bool.not_false, Bool.and_true, Bool.and_false, Bool.true_and, Bool.false_and, Bool.or_true, Bool.or_false, Bool.true_or, Bool.false_or, reduceIte, or_true, true_or, or_false, false_or, and_true, true_and, and_false, false_and, not_true_eq_false, not_false_eq_true, Bool.false_eq_true, eq_self]; done) | (simp [k_permits, b2i, c_1, c_8, c_9, c_13]; done)), ht⟩) (fun _ h => nomatch h) dX0_permits_44
        · refine lv_iconst (v := 1) hx hb dX0_permits_39 (by decide) ?_
          refine lv_goto (tgt := 44) hx hb dX0_permits_40 (by decide) ?_
          exact W.zret (v := 1) hx hb hr rfl (fun t ht hW => ⟨1, rfl, (by first | rfl | (simp only [k_permits, b2i, c_1, c_8, c_9, c_13, b2i, decide_true, decide_false, Bool.not_true, Bool.not_false, Bool.and_true, Bool.and_false, Bool.true_and, Bool.false_and, Bool.or_true, Bool.or_false, Bool.true_or, Bool.false_or, reduceIte, or_true, true_or, or_false, false_or, and_true, true_and, and_false, false_and, not_true_eq_false, not_false_eq_true, Bool.false_eq_true, eq_self]; done) | (simp [k_permits, b2i, c_1, c_8, c_9, c_13]; done)), ht⟩) (fun _ h => nomatch h) dX0_permits_44
    · rw [b2i_z] at c_8
      refine lv_iconst (v := 1) hx hb dX0_permits_12 (by decide) ?_
      exact W.zret (v := 1) hx hb hr rfl (fun t ht hW => ⟨1, rfl, (by first | rfl | (simp only [k_permits, b2i, c_1, c_8, b2i, decide_true, decide_false, Bool.not_true, Bool.not_false, Bool.and_true, Bool.and_false, Bool.true_and, Bool.false_and, Bool.or_true, Bool.or_false, Bool.true_or, Bool.false_or, reduceIte, or_true, true_or, or_false, false_or, and_true, true_and, and_false, false_and, not_true_eq_false, not_false_eq_true, Bool.false_eq_true, eq_self]; done) | (simp [k_permits, b2i, c_1, c_8]; done)), ht⟩) (fun _ h => nomatch h) dX0_permits_13
set_option maxHeartbeats 4000000 in
set_option maxRecDepth 100000 in
theorem mtX0_startOf (l : Launch) (cg : Int32) (nb : Int64) (bf : Int64) : Met l yX0_startOf wsX0_startOf ({ frames := 1, cells := 0, slots := 0, locals := 20 }) (fun v _ => v = ([.int cg, .long nb, .long bf] : List Value).toArray) (vp_Sl (fun r => r = k_startOf cg nb bf)) 0 0 (fun _ => False) := by
  refine Met.ofW (cc := cX0_startOf) (maxL := 5) (ret := (some .long)) (by decide) rfl ?_
  intro p e s m args below meth c s₁ B hml hv
  have hv : args = ([.int cg, .long nb, .long bf] : List Value).toArray := hv
  subst hv
  have hx := B.exec
  have hb := B.bytes
  have hr := B.returns
  have hts := atoms_spec (ws := wsX0_startOf) B.pre
  have hown : s.vm.findClass RX0 = some m.cls := findClass_of_methodNamed B.named
  have hlocks := B.notSynchronized
  have hl := lv_entry ([.int cg, .long nb, .long bf]) (n := 5) (Nat.le_of_ble_eq_true rfl)
  rw [lg_entry_eq]
  generalize (lg_sl ([.int cg, .long nb, .long bf]) ++ List.replicate (5 - (lg_sl ([.int cg, .long nb, .long bf])).length) Slot.unset).toArray = ls at hl ⊢
  have hl : lv_has ls 5 [(0, .int cg), (1, .long nb), (3, .long bf)] := hl
  refine lv_iload_n hx hb dX0_startOf_0 rfl (lv_at hl 0 rfl) ?_
  refine vp_callSi (W.runS (As := [.int cg]) (rest := []) ⟨hx, hb, hml, hown, hts⟩ (mtX0_kindOf l cg) (va_cwS 1 hts (gAll (mc1 (wa 239 (by decide +kernel) rfl) (mc1 (wa 240 (by decide +kernel) rfl) (mc1 (wa 16 (by decide +kernel) rfl) mc0))) (wa 241 (by decide +kernel) rfl) (by decide +kernel)) rfl rfl rfl (by decide +kernel) ⟨Nat.le_of_ble_eq_true rfl, Nat.le_of_ble_eq_true rfl⟩) preEq rfl rfl hl.1 rfl (lv_room (Nat.le_of_ble_eq_true rfl)) dX0_startOf_1 ⟨Nat.le_of_ble_eq_true rfl, Nat.le_of_ble_eq_true rfl⟩) (fun r_1 er_1 => ?_)
  have er_1 : r_1 = (k_kindOf cg) := er_1
  subst er_1
  by_cases c_2 : (k_kindOf cg) = 1
  · refine lv_tableIn (off := 28) (tgt := 32) hx hb dX0_startOf_4 (by rw [c_2]; decide) (by rw [c_2]; decide) (by rw [c_2]; decide) (by decide) ?_
    refine lv_ldc2 (v := 4) hx hb hown (hts (.constantLong RX0 54 4) (wa 294 (by decide +kernel) rfl)) dX0_startOf_32 ?_
    refine lv_lload_n hx hb dX0_startOf_35 rfl (lv_at hl 2 rfl) ?_
    refine lv_lmul hx hb dX0_startOf_36 ?_
    exact W.lret (v := (4 * bf)) hx hb hr (fun t ht hW => ⟨(4 * bf), rfl, (by first | rfl | (simp only [k_startOf, c_2, b2i, decide_true, decide_false, Bool.not_true, Bool.not_false, Bool.and_true, Bool.and_false, Bool.true_and, Bool.false_and, Bool.or_true, Bool.or_false, Bool.true_or, Bool.false_or, reduceIte, or_true, true_or, or_false, false_or, and_true, true_and, and_false, false_and, not_true_eq_false, not_false_eq_true, Bool.false_eq_true, eq_self]; done) | (simp [k_startOf, c_2]; done)), ht⟩) (fun _ h => nomatch h) dX0_startOf_37
  by_cases c_3 : (k_kindOf cg) = 2
  · refine lv_tableIn (off := 34) (tgt := 38) hx hb dX0_startOf_4 (by rw [c_3]; decide) (by rw [c_3]; decide) (by rw [c_3]; decide) (by decide) ?_
    refine lv_ldc2 (v := 4) hx hb hown (hts (.constantLong RX0 54 4) (wa 294 (by decide +kernel) rfl)) dX0_startOf_38 ?_
    refine lv_lload_n hx hb dX0_startOf_41 rfl (lv_at hl 1 rfl) ?_
    refine lv_lmul hx hb dX0_startOf_42 ?_
    exact W.lret (v := (4 * nb)) hx hb hr (fun t ht hW => ⟨(4 * nb), rfl, (by first | rfl | (simp only [k_startOf, c_2, c_3, b2i, decide_true, decide_false, Bool.not_true, Bool.not_false, Bool.and_true, Bool.and_false, Bool.true_and, Bool.false_and, Bool.or_true, Bool.or_false, Bool.true_or, Bool.false_or, reduceIte, or_true, true_or, or_false, false_or, and_true, true_and, and_false, false_and, not_true_eq_false, not_false_eq_true, Bool.false_eq_true, eq_self]; done) | (simp [k_startOf, c_2, c_3]; done)), ht⟩) (fun _ h => nomatch h) dX0_startOf_43
  by_cases c_4 : (k_kindOf cg) = 3
  · refine lv_tableIn (off := 40) (tgt := 44) hx hb dX0_startOf_4 (by rw [c_4]; decide) (by rw [c_4]; decide) (by rw [c_4]; decide) (by decide) ?_
    refine lv_ldc2 (v := 4) hx hb hown (hts (.constantLong RX0 54 4) (wa 294 (by decide +kernel) rfl)) dX0_startOf_44 ?_
    refine lv_lload_n hx hb dX0_startOf_47 rfl (lv_at hl 1 rfl) ?_
    refine lv_lload_n hx hb dX0_startOf_48 rfl (lv_at hl 1 rfl) ?_
    refine lv_lconst (v := 1) hx hb dX0_startOf_49 (by decide) ?_
    refine lv_ladd hx hb dX0_startOf_50 ?_
    refine lv_land hx hb dX0_startOf_51 ?_
    refine lv_lmul hx hb dX0_startOf_52 ?_
    exact W.lret (v := (4 * (nb &&& (nb + 1)))) hx hb hr (fun t ht hW => ⟨(4 * (nb &&& (nb + 1))), rfl, (by first | rfl | (simp only [k_startOf, c_2, c_3, c_4, b2i, decide_true, decide_false, Bool.not_true, Bool.not_false, Bool.and_true, Bool.and_false, Bool.true_and, Bool.false_and, Bool.or_true, Bool.or_false, Bool.true_or, Bool.false_or, reduceIte, or_true, true_or, or_false, false_or, and_true, true_and, and_false, false_and, not_true_eq_false, not_false_eq_true, Bool.false_eq_true, eq_self]; done) | (simp [k_startOf, c_2, c_3, c_4]; done)), ht⟩) (fun _ h => nomatch h) dX0_startOf_53
  refine lv_tableOut (tgt := 54) hx hb dX0_startOf_4 (by have n_c_2 := lv_neT c_2 (a := 1) (by decide); have n_c_3 := lv_neT c_3 (a := 2) (by decide); have n_c_4 := lv_neT c_4 (a := 3) (by decide); omega) (by decide) ?_
  refine lv_lconst (v := 0) hx hb dX0_startOf_54 (by decide) ?_
  exact W.lret (v := 0) hx hb hr (fun t ht hW => ⟨0, rfl, (by first | rfl | (simp only [k_startOf, c_2, c_3, c_4, b2i, decide_true, decide_false, Bool.not_true, Bool.not_false, Bool.and_true, Bool.and_false, Bool.true_and, Bool.false_and, Bool.or_true, Bool.or_false, Bool.true_or, Bool.false_or, reduceIte, or_true, true_or, or_false, false_or, and_true, true_and, and_false, false_and, not_true_eq_false, not_false_eq_true, Bool.false_eq_true, eq_self]; done) | (simp [k_startOf, c_2, c_3, c_4]; done)), ht⟩) (fun _ h => nomatch h) dX0_startOf_55
set_option maxHeartbeats 4000000 in
set_option maxRecDepth 100000 in
theorem mtX0_endOf (l : Launch) (cg : Int32) (nb : Int64) : Met l yX0_endOf wsX0_endOf ({ frames := 1, cells := 0, slots := 0, locals := 20 }) (fun v _ => v = ([.int cg, .long nb] : List Value).toArray) (vp_Sl (fun r => r = k_endOf cg nb)) 0 0 (fun _ => False) := by
  refine Met.ofW (cc := cX0_endOf) (maxL := 3) (ret := (some .long)) (by decide) rfl ?_
  intro p e s m args below meth c s₁ B hml hv
  have hv : args = ([.int cg, .long nb] : List Value).toArray := hv
  subst hv
  have hx := B.exec
  have hb := B.bytes
  have hr := B.returns
  have hts := atoms_spec (ws := wsX0_endOf) B.pre
  have hown : s.vm.findClass RX0 = some m.cls := findClass_of_methodNamed B.named
  have hlocks := B.notSynchronized
  have hl := lv_entry ([.int cg, .long nb]) (n := 3) (Nat.le_of_ble_eq_true rfl)
  rw [lg_entry_eq]
  generalize (lg_sl ([.int cg, .long nb]) ++ List.replicate (3 - (lg_sl ([.int cg, .long nb])).length) Slot.unset).toArray = ls at hl ⊢
  have hl : lv_has ls 3 [(0, .int cg), (1, .long nb)] := hl
  refine lv_iload_n hx hb dX0_endOf_0 rfl (lv_at hl 0 rfl) ?_
  refine vp_callSi (W.runS (As := [.int cg]) (rest := []) ⟨hx, hb, hml, hown, hts⟩ (mtX0_kindOf l cg) (va_cwS 1 hts (gAll (mc1 (wa 239 (by decide +kernel) rfl) (mc1 (wa 240 (by decide +kernel) rfl) (mc1 (wa 16 (by decide +kernel) rfl) mc0))) (wa 241 (by decide +kernel) rfl) (by decide +kernel)) rfl rfl rfl (by decide +kernel) ⟨Nat.le_of_ble_eq_true rfl, Nat.le_of_ble_eq_true rfl⟩) preEq rfl rfl hl.1 rfl (lv_room (Nat.le_of_ble_eq_true rfl)) dX0_endOf_1 ⟨Nat.le_of_ble_eq_true rfl, Nat.le_of_ble_eq_true rfl⟩) (fun r_1 er_1 => ?_)
  have er_1 : r_1 = (k_kindOf cg) := er_1
  subst er_1
  by_cases c_2 : (k_kindOf cg) = 1
  · refine lv_tableIn (off := 28) (tgt := 32) hx hb dX0_endOf_4 (by rw [c_2]; decide) (by rw [c_2]; decide) (by rw [c_2]; decide) (by decide) ?_
    refine lv_ldc2 (v := 4) hx hb hown (hts (.constantLong RX0 54 4) (wa 294 (by decide +kernel) rfl)) dX0_endOf_32 ?_
    refine lv_lload_n hx hb dX0_endOf_35 rfl (lv_at hl 1 rfl) ?_
    refine lv_lmul hx hb dX0_endOf_36 ?_
    exact W.lret (v := (4 * nb)) hx hb hr (fun t ht hW => ⟨(4 * nb), rfl, (by first | rfl | (simp only [k_endOf, c_2, b2i, decide_true, decide_false, Bool.not_true, Bool.not_false, Bool.and_true, Bool.and_false, Bool.true_and, Bool.false_and, Bool.or_true, Bool.or_false, Bool.true_or, Bool.false_or, reduceIte, or_true, true_or, or_false, false_or, and_true, true_and, and_false, false_and, not_true_eq_false, not_false_eq_true, Bool.false_eq_true, eq_self]; done) | (simp [k_endOf, c_2]; done)), ht⟩) (fun _ h => nomatch h) dX0_endOf_37
  by_cases c_3 : (k_kindOf cg) = 2
  · refine lv_tableIn (off := 34) (tgt := 38) hx hb dX0_endOf_4 (by rw [c_3]; decide) (by rw [c_3]; decide) (by rw [c_3]; decide) (by decide) ?_
    refine lv_ldc2 (v := 4) hx hb hown (hts (.constantLong RX0 54 4) (wa 294 (by decide +kernel) rfl)) dX0_endOf_38 ?_
    refine lv_lload_n hx hb dX0_endOf_41 rfl (lv_at hl 1 rfl) ?_
    refine lv_lconst (v := 1) hx hb dX0_endOf_42 (by decide) ?_
    refine lv_ladd hx hb dX0_endOf_43 ?_
    refine lv_lmul hx hb dX0_endOf_44 ?_
    exact W.lret (v := (4 * (nb + 1))) hx hb hr (fun t ht hW => ⟨(4 * (nb + 1)), rfl, (by first | rfl | (simp only [k_endOf, c_2, c_3, b2i, decide_true, decide_false, Bool.not_true, Bool.not_false, Bool.and_true, Bool.and_false, Bool.true_and, Bool.false_and, Bool.or_true, Bool.or_false, Bool.true_or, Bool.false_or, reduceIte, or_true, true_or, or_false, false_or, and_true, true_and, and_false, false_and, not_true_eq_false, not_false_eq_true, Bool.false_eq_true, eq_self]; done) | (simp [k_endOf, c_2, c_3]; done)), ht⟩) (fun _ h => nomatch h) dX0_endOf_45
  by_cases c_4 : (k_kindOf cg) = 3
  · refine lv_tableIn (off := 42) (tgt := 46) hx hb dX0_endOf_4 (by rw [c_4]; decide) (by rw [c_4]; decide) (by rw [c_4]; decide) (by decide) ?_
    refine lv_ldc2 (v := 4) hx hb hown (hts (.constantLong RX0 54 4) (wa 294 (by decide +kernel) rfl)) dX0_endOf_46 ?_
    refine lv_lload_n hx hb dX0_endOf_49 rfl (lv_at hl 1 rfl) ?_
    refine lv_lload_n hx hb dX0_endOf_50 rfl (lv_at hl 1 rfl) ?_
    refine lv_lconst (v := 1) hx hb dX0_endOf_51 (by decide) ?_
    refine lv_ladd hx hb dX0_endOf_52 ?_
    refine lv_lor hx hb dX0_endOf_53 ?_
    refine lv_lconst (v := 1) hx hb dX0_endOf_54 (by decide) ?_
    refine lv_ladd hx hb dX0_endOf_55 ?_
    refine lv_lmul hx hb dX0_endOf_56 ?_
    exact W.lret (v := (4 * ((nb ||| (nb + 1)) + 1))) hx hb hr (fun t ht hW => ⟨(4 * ((nb ||| (nb + 1)) + 1)), rfl, (by first | rfl | (simp only [k_endOf, c_2, c_3, c_4, b2i, decide_true, decide_false, Bool.not_true, Bool.not_false, Bool.and_true, Bool.and_false, Bool.true_and, Bool.false_and, Bool.or_true, Bool.or_false, Bool.true_or, Bool.false_or, reduceIte, or_true, true_or, or_false, false_or, and_true, true_and, and_false, false_and, not_true_eq_false, not_false_eq_true, Bool.false_eq_true, eq_self]; done) | (simp [k_endOf, c_2, c_3, c_4]; done)), ht⟩) (fun _ h => nomatch h) dX0_endOf_57
  refine lv_tableOut (tgt := 58) hx hb dX0_endOf_4 (by have n_c_2 := lv_neT c_2 (a := 1) (by decide); have n_c_3 := lv_neT c_3 (a := 2) (by decide); have n_c_4 := lv_neT c_4 (a := 3) (by decide); omega) (by decide) ?_
  refine lv_lconst (v := 0) hx hb dX0_endOf_58 (by decide) ?_
  exact W.lret (v := 0) hx hb hr (fun t ht hW => ⟨0, rfl, (by first | rfl | (simp only [k_endOf, c_2, c_3, c_4, b2i, decide_true, decide_false, Bool.not_true, Bool.not_false, Bool.and_true, Bool.and_false, Bool.true_and, Bool.false_and, Bool.or_true, Bool.or_false, Bool.true_or, Bool.false_or, reduceIte, or_true, true_or, or_false, false_or, and_true, true_and, and_false, false_and, not_true_eq_false, not_false_eq_true, Bool.false_eq_true, eq_self]; done) | (simp [k_endOf, c_2, c_3, c_4]; done)), ht⟩) (fun _ h => nomatch h) dX0_endOf_59
