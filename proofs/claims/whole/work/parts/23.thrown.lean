set_option maxHeartbeats 4000000 in
set_option maxRecDepth 100000 in
theorem thX1_word (l : Launch) (hl0 : l.stackTraces = false) (o : Nat) (hz sa : Nat) (ad : Int64) (hi : k_wordIndex ad = -1) : vx_Met l yX1_word wsX1_word ({ frames := 6, cells := 1, slots := 6, locals := 91 }) (va_Pc [.ref o, .long ad] (fun U => U.heap.size = hz ∧ xR RX1 37 "no word of memory is there" sa xE1 (fun q => hz ≤ q) U)) (va_Ql (fun (_ : Int64) (_ : Unit) => False) (fun _ _ => True) (fun _ => False)) (vx_X (fun _ : Unit => True) (fun E _ _ => E = xE1) (fun _ => False)) 1 6 (fun q => hz ≤ q) := by
  refine vx_ofW (cc := cX1_word) (maxL := 4) (ret := (some .long)) (by decide) rfl ?_
  intro p e s m args below meth c s₁ B hml hth hv
  obtain ⟨rfl, hsz, hX⟩ := hv
  have hx := B.exec
  have hb := B.bytes
  have hr := B.returns
  have hts := atoms_spec (ws := wsX1_word) B.pre
  have hown : s.vm.findClass RX1 = some m.cls := findClass_of_methodNamed B.named
  have hlocks := B.notSynchronized
  subst hsz
  have hl := lv_entry ([.ref o, .long ad]) (n := 4) (Nat.le_of_ble_eq_true rfl)
  rw [lg_entry_eq]
  generalize (lg_sl ([.ref o, .long ad]) ++ List.replicate (4 - (lg_sl ([.ref o, .long ad])).length) Slot.unset).toArray = ls at hl ⊢
  have hl : lv_has ls 4 [(0, .ref o), (1, .long ad)] := hl
  refine lv_lload_n hx hb dX1_word_0 rfl (lv_at hl 1 rfl) ?_
  refine vp_callSi (W.runS (As := [.long ad]) (rest := []) ⟨hx, hb, hml, hown, hts⟩ (mtX1_wordIndex l ad) (va_cwS 1 hts (gAll (mc1 (wa 104 (by decide +kernel) rfl) (mc1 (wa 105 (by decide +kernel) rfl) (mc1 (wa 15 (by decide +kernel) rfl) mc0))) (wa 106 (by decide +kernel) rfl) (by decide +kernel)) rfl rfl rfl (by decide +kernel) ⟨Nat.le_of_ble_eq_true rfl, Nat.le_of_ble_eq_true rfl⟩) preEq rfl rfl hl.1 rfl (lv_room (Nat.le_of_ble_eq_true rfl)) dX1_word_1 ⟨Nat.le_of_ble_eq_true rfl, Nat.le_of_ble_eq_true rfl⟩) (fun r_1 er_1 => ?_)
  have er_1 : r_1 = (k_wordIndex ad) := er_1
  subst er_1
  refine lv_istore_n (lv' := [(3, .int (k_wordIndex ad)), (0, .ref o), (1, .long ad)]) hx hb dX1_word_4 rfl hl (by decide) rfl (fun ls hl => ?_)
  refine lv_iload_n hx hb dX1_word_5 rfl (lv_at hl 0 rfl) ?_
  refine lv_iconst (v := (-1)) hx hb dX1_word_6 (by decide) ?_
  refine lv_icmp_ne (tgt := 20) hx hb dX1_word_7 (by decide) (fun c_2 => ?_) (fun c_2 => ?_)
  · exact absurd hi c_2
  · exact vx_throwS (own := RX1) (cls := xE1) (names := xN) (ik := 35) (is := 37) (ic := 39) (A := fun q => s.heap.size ≤ q) hx hb hl0 hown (by decide +kernel) (by decide +kernel) (hts (.classLink RX1 35 xE1) (wa 110 (by decide +kernel) rfl)) (hts (.initialized xE1) (wa 21 (by decide +kernel) rfl)) hX.1 (vx_hat (B := xBad xE1) (fun w hw => hts w (xg_X1_39 w hw)) xb_X1_39 hX.2.1.all) (by decide +kernel) hX.2.2.1 hX.2.2.2 va_S.rf (by rw [hml]; exact hl.1) dX1_word_10 dX1_word_13 dX1_word_14 dX1_word_16 dX1_word_19 (fun x hx => (hth x hx).elim) (Nat.le_of_ble_eq_true rfl) (Nat.le_of_ble_eq_true rfl) (Nat.le_of_ble_eq_true rfl) (Nat.le_of_ble_eq_true rfl) hlocks (fun t hal hsz hk => ⟨(), trivial, rfl, hsz, fun q hq _ => hk q hq⟩) (fun _ h => nomatch h) (Nat.le_refl _) (Nat.le_refl _)
set_option maxHeartbeats 4000000 in
set_option maxRecDepth 100000 in
theorem thX1_put (l : Launch) (hl0 : l.stackTraces = false) (o : Nat) (hz sa : Nat) (ad : Int64) (v : Int64) (hi : k_wordIndex ad = -1) : vx_Met l yX1_put wsX1_put ({ frames := 6, cells := 1, slots := 6, locals := 91 }) (va_Pc [.ref o, .long ad, .long v] (fun U => U.heap.size = hz ∧ xR RX1 37 "no word of memory is there" sa xE1 (fun q => hz ≤ q) U)) (va_Qv (fun _ : Unit => False) (fun _ _ => True) (fun _ => False)) (vx_X (fun _ : Unit => True) (fun E _ _ => E = xE1) (fun _ => False)) 1 6 (fun q => hz ≤ q) := by
  refine vx_ofW (cc := cX1_put) (maxL := 6) (ret := none) (by decide) rfl ?_
  intro p e s m args below meth c s₁ B hml hth hv
  obtain ⟨rfl, hsz, hX⟩ := hv
  have hx := B.exec
  have hb := B.bytes
  have hr := B.returns
  have hts := atoms_spec (ws := wsX1_put) B.pre
  have hown : s.vm.findClass RX1 = some m.cls := findClass_of_methodNamed B.named
  have hlocks := B.notSynchronized
  subst hsz
  have hl := lv_entry ([.ref o, .long ad, .long v]) (n := 6) (Nat.le_of_ble_eq_true rfl)
  rw [lg_entry_eq]
  generalize (lg_sl ([.ref o, .long ad, .long v]) ++ List.replicate (6 - (lg_sl ([.ref o, .long ad, .long v])).length) Slot.unset).toArray = ls at hl ⊢
  have hl : lv_has ls 6 [(0, .ref o), (1, .long ad), (3, .long v)] := hl
  refine lv_lload_n hx hb dX1_put_0 rfl (lv_at hl 1 rfl) ?_
  refine vp_callSi (W.runS (As := [.long ad]) (rest := []) ⟨hx, hb, hml, hown, hts⟩ (mtX1_wordIndex l ad) (va_cwS 1 hts (gAll (mc1 (wa 104 (by decide +kernel) rfl) (mc1 (wa 105 (by decide +kernel) rfl) (mc1 (wa 15 (by decide +kernel) rfl) mc0))) (wa 106 (by decide +kernel) rfl) (by decide +kernel)) rfl rfl rfl (by decide +kernel) ⟨Nat.le_of_ble_eq_true rfl, Nat.le_of_ble_eq_true rfl⟩) preEq rfl rfl hl.1 rfl (lv_room (Nat.le_of_ble_eq_true rfl)) dX1_put_1 ⟨Nat.le_of_ble_eq_true rfl, Nat.le_of_ble_eq_true rfl⟩) (fun r_1 er_1 => ?_)
  have er_1 : r_1 = (k_wordIndex ad) := er_1
  subst er_1
  refine lv_istore (lv' := [(5, .int (k_wordIndex ad)), (0, .ref o), (1, .long ad), (3, .long v)]) hx hb dX1_put_4 hl (by decide) rfl (fun ls hl => ?_)
  refine lv_iload hx hb dX1_put_6 (lv_at hl 0 rfl) ?_
  refine lv_iconst (v := (-1)) hx hb dX1_put_8 (by decide) ?_
  refine lv_icmp_ne (tgt := 22) hx hb dX1_put_9 (by decide) (fun c_2 => ?_) (fun c_2 => ?_)
  · exact absurd hi c_2
  · exact vx_throwS (own := RX1) (cls := xE1) (names := xN) (ik := 35) (is := 37) (ic := 39) (A := fun q => s.heap.size ≤ q) hx hb hl0 hown (by decide +kernel) (by decide +kernel) (hts (.classLink RX1 35 xE1) (wa 110 (by decide +kernel) rfl)) (hts (.initialized xE1) (wa 21 (by decide +kernel) rfl)) hX.1 (vx_hat (B := xBad xE1) (fun w hw => hts w (xg_X1_39 w hw)) xb_X1_39 hX.2.1.all) (by decide +kernel) hX.2.2.1 hX.2.2.2 va_S.rf (by rw [hml]; exact hl.1) dX1_put_12 dX1_put_15 dX1_put_16 dX1_put_18 dX1_put_21 (fun x hx => (hth x hx).elim) (Nat.le_of_ble_eq_true rfl) (Nat.le_of_ble_eq_true rfl) (Nat.le_of_ble_eq_true rfl) (Nat.le_of_ble_eq_true rfl) hlocks (fun t hal hsz hk => ⟨(), trivial, rfl, hsz, fun q hq _ => hk q hq⟩) (fun _ h => nomatch h) (Nat.le_refl _) (Nat.le_refl _)
set_option maxHeartbeats 4000000 in
set_option maxRecDepth 100000 in
theorem thX1_setTable (l : Launch) (hl0 : l.stackTraces = false) (o : Nat) (hz sa : Nat) (tv : Int64) (hi : ¬ (k_sortOf tv = 0 ∨ k_sortOf tv = 8 ∨ k_sortOf tv = 9)) : vx_Met l yX1_setTable wsX1_setTable ({ frames := 6, cells := 1, slots := 6, locals := 91 }) (va_Pc [.ref o, .long tv] (fun U => U.heap.size = hz ∧ xR RX1 47 "the sort is none of 0, 8, 9" sa xE2 (fun q => hz ≤ q) U)) (va_Qv (fun _ : Unit => False) (fun _ _ => True) (fun _ => False)) (vx_X (fun _ : Unit => True) (fun E _ _ => E = xE2) (fun _ => False)) 1 6 (fun q => hz ≤ q) := by
  refine vx_ofW (cc := cX1_setTable) (maxL := 4) (ret := none) (by decide) rfl ?_
  intro p e s m args below meth c s₁ B hml hth hv
  obtain ⟨rfl, hsz, hX⟩ := hv
  have hx := B.exec
  have hb := B.bytes
  have hr := B.returns
  have hts := atoms_spec (ws := wsX1_setTable) B.pre
  have hown : s.vm.findClass RX1 = some m.cls := findClass_of_methodNamed B.named
  have hlocks := B.notSynchronized
  subst hsz
  have hl := lv_entry ([.ref o, .long tv]) (n := 4) (Nat.le_of_ble_eq_true rfl)
  rw [lg_entry_eq]
  generalize (lg_sl ([.ref o, .long tv]) ++ List.replicate (4 - (lg_sl ([.ref o, .long tv])).length) Slot.unset).toArray = ls at hl ⊢
  have hl : lv_has ls 4 [(0, .ref o), (1, .long tv)] := hl
  refine lv_lload_n hx hb dX1_setTable_0 rfl (lv_at hl 1 rfl) ?_
  refine vp_callSi (W.runS (As := [.long tv]) (rest := []) ⟨hx, hb, hml, hown, hts⟩ (mtX1_sortOf l tv) (va_cwS 1 hts (gAll (mc1 (wa 192 (by decide +kernel) rfl) (mc1 (wa 193 (by decide +kernel) rfl) (mc1 (wa 15 (by decide +kernel) rfl) mc0))) (wa 194 (by decide +kernel) rfl) (by decide +kernel)) rfl rfl rfl (by decide +kernel) ⟨Nat.le_of_ble_eq_true rfl, Nat.le_of_ble_eq_true rfl⟩) preEq rfl rfl hl.1 rfl (lv_room (Nat.le_of_ble_eq_true rfl)) dX1_setTable_1 ⟨Nat.le_of_ble_eq_true rfl, Nat.le_of_ble_eq_true rfl⟩) (fun r_1 er_1 => ?_)
  have er_1 : r_1 = (k_sortOf tv) := er_1
  subst er_1
  refine lv_istore_n (lv' := [(3, .int (k_sortOf tv)), (0, .ref o), (1, .long tv)]) hx hb dX1_setTable_4 rfl hl (by decide) rfl (fun ls hl => ?_)
  refine lv_iload_n hx hb dX1_setTable_5 rfl (lv_at hl 0 rfl) ?_
  refine lv_if_eq (tgt := 31) hx hb dX1_setTable_6 (by decide) (fun c_2 => ?_) (fun c_2 => ?_)
  · exact absurd (by simp [c_2]) hi
  · refine lv_iload_n hx hb dX1_setTable_9 rfl (lv_at hl 0 rfl) ?_
    refine lv_bipush (v := 8) hx hb dX1_setTable_10 (by decide) ?_
    refine lv_icmp_eq (tgt := 31) hx hb dX1_setTable_12 (by decide) (fun c_3 => ?_) (fun c_3 => ?_)
    · exact absurd (by simp [c_2, c_3]) hi
    · refine lv_iload_n hx hb dX1_setTable_15 rfl (lv_at hl 0 rfl) ?_
      refine lv_bipush (v := 9) hx hb dX1_setTable_16 (by decide) ?_
      refine lv_icmp_eq (tgt := 31) hx hb dX1_setTable_18 (by decide) (fun c_4 => ?_) (fun c_4 => ?_)
      · exact absurd (by simp [c_2, c_3, c_4]) hi
      · exact vx_throwS (own := RX1) (cls := xE2) (names := xN) (ik := 45) (is := 47) (ic := 49) (A := fun q => s.heap.size ≤ q) hx hb hl0 hown (by decide +kernel) (by decide +kernel) (hts (.classLink RX1 45 xE2) (wa 195 (by decide +kernel) rfl)) (hts (.initialized xE2) (wa 22 (by decide +kernel) rfl)) hX.1 (vx_hat (B := xBad xE2) (fun w hw => hts w (xg_X1_49 w hw)) xb_X1_49 hX.2.1.all) (by decide +kernel) hX.2.2.1 hX.2.2.2 va_S.rf (by rw [hml]; exact hl.1) dX1_setTable_21 dX1_setTable_24 dX1_setTable_25 dX1_setTable_27 dX1_setTable_30 (fun x hx => (hth x hx).elim) (Nat.le_of_ble_eq_true rfl) (Nat.le_of_ble_eq_true rfl) (Nat.le_of_ble_eq_true rfl) (Nat.le_of_ble_eq_true rfl) hlocks (fun t hal hsz hk => ⟨(), trivial, rfl, hsz, fun q hq _ => hk q hq⟩) (fun _ h => nomatch h) (Nat.le_refl _) (Nat.le_refl _)
set_option maxHeartbeats 4000000 in
set_option maxRecDepth 100000 in
theorem thX1_find (l : Launch) (hl0 : l.stackTraces = false) (o : Nat) (hz sa : Nat) (ad : Int64) (ac : Int32) (md : Int32) (sz : Int32) (hi : k_isAccess ad ac md sz = false) : vx_Met l yX1_find wsX1_find ({ frames := 6, cells := 1, slots := 6, locals := 168 }) (va_Pc [.ref o, .long ad, .int ac, .int md, .int sz] (fun U => U.heap.size = hz ∧ xR RX1 70 "no such access" sa xE2 (fun q => hz ≤ q) U)) (va_Ql (fun (_ : Int64) (_ : Unit) => False) (fun _ _ => True) (fun _ => False)) (vx_X (fun _ : Unit => True) (fun E _ _ => E = xE2) (fun _ => False)) 1 6 (fun q => hz ≤ q) := by
  refine vx_ofW (cc := cX1_find) (maxL := 8) (ret := (some .long)) (by decide) rfl ?_
  intro p e s m args below meth c s₁ B hml hth hv
  obtain ⟨rfl, hsz, hX⟩ := hv
  have hx := B.exec
  have hb := B.bytes
  have hr := B.returns
  have hts := atoms_spec (ws := wsX1_find) B.pre
  have hown : s.vm.findClass RX1 = some m.cls := findClass_of_methodNamed B.named
  have hlocks := B.notSynchronized
  subst hsz
  have hl := lv_entry ([.ref o, .long ad, .int ac, .int md, .int sz]) (n := 8) (Nat.le_of_ble_eq_true rfl)
  rw [lg_entry_eq]
  generalize (lg_sl ([.ref o, .long ad, .int ac, .int md, .int sz]) ++ List.replicate (8 - (lg_sl ([.ref o, .long ad, .int ac, .int md, .int sz])).length) Slot.unset).toArray = ls at hl ⊢
  have hl : lv_has ls 8 [(0, .ref o), (1, .long ad), (3, .int ac), (4, .int md), (5, .int sz)] := hl
  refine lv_lload_n hx hb dX1_find_0 rfl (lv_at hl 1 rfl) ?_
  refine lv_iload_n hx hb dX1_find_1 rfl (lv_at hl 2 rfl) ?_
  refine lv_iload hx hb dX1_find_2 (lv_at hl 3 rfl) ?_
  refine lv_iload hx hb dX1_find_4 (lv_at hl 4 rfl) ?_
  refine vp_callSi (W.runS (As := [.long ad, .int ac, .int md, .int sz]) (rest := []) ⟨hx, hb, hml, hown, hts⟩ (mtX1_isAccess l ad ac md sz) (va_cwS 4 hts (gAll (mc1 (wa 250 (by decide +kernel) rfl) (mc1 (wa 251 (by decide +kernel) rfl) (mc1 (wa 15 (by decide +kernel) rfl) mc0))) (wa 252 (by decide +kernel) rfl) (by decide +kernel)) rfl rfl rfl (by decide +kernel) ⟨Nat.le_of_ble_eq_true rfl, Nat.le_of_ble_eq_true rfl⟩) preEq rfl rfl hl.1 rfl (lv_room (Nat.le_of_ble_eq_true rfl)) dX1_find_6 ⟨Nat.le_of_ble_eq_true rfl, Nat.le_of_ble_eq_true rfl⟩) (fun r_1 er_1 => ?_)
  have er_1 : r_1 = (b2i (k_isAccess ad ac md sz)) := er_1
  subst er_1
  refine lv_if_ne (tgt := 22) hx hb dX1_find_9 (by decide) (fun c_2 => ?_) (fun c_2 => ?_)
  · rw [b2i_z] at c_2
    rw [Bool.not_eq_false] at c_2
    exact absurd (c_2.symm.trans hi) (by decide)
  · rw [b2i_z] at c_2
    exact vx_throwS (own := RX1) (cls := xE2) (names := xN) (ik := 45) (is := 70) (ic := 49) (A := fun q => s.heap.size ≤ q) hx hb hl0 hown (by decide +kernel) (by decide +kernel) (hts (.classLink RX1 45 xE2) (wa 195 (by decide +kernel) rfl)) (hts (.initialized xE2) (wa 22 (by decide +kernel) rfl)) hX.1 (vx_hat (B := xBad xE2) (fun w hw => hts w (xg_X1_49 w hw)) xb_X1_49 hX.2.1.all) (by decide +kernel) hX.2.2.1 hX.2.2.2 va_S.rf (by rw [hml]; exact hl.1) dX1_find_12 dX1_find_15 dX1_find_16 dX1_find_18 dX1_find_21 (fun x hx => (hth x hx).elim) (Nat.le_of_ble_eq_true rfl) (Nat.le_of_ble_eq_true rfl) (Nat.le_of_ble_eq_true rfl) (Nat.le_of_ble_eq_true rfl) hlocks (fun t hal hsz hk => ⟨(), trivial, rfl, hsz, fun q hq _ => hk q hq⟩) (fun _ h => nomatch h) (Nat.le_refl _) (Nat.le_refl _)
set_option maxHeartbeats 4000000 in
set_option maxRecDepth 100000 in
theorem thX1_allows (l : Launch) (hl0 : l.stackTraces = false) (o : Nat) (hz sa : Nat) (ad : Int64) (ac : Int32) (md : Int32) (sz : Int32) (hi : ¬ (k_isAccess ad ac md sz = true ∧ k_isPhysical ad = true)) : vx_Met l yX1_allows wsX1_allows ({ frames := 6, cells := 1, slots := 6, locals := 91 }) (va_Pc [.ref o, .long ad, .int ac, .int md, .int sz] (fun U => U.heap.size = hz ∧ xR RX1 86 "no such access, or no physical address" sa xE2 (fun q => hz ≤ q) U)) (va_Qi (fun (_ : Int32) (_ : Unit) => False) (fun _ _ => True) (fun _ => False)) (vx_X (fun _ : Unit => True) (fun E _ _ => E = xE2) (fun _ => False)) 1 6 (fun q => hz ≤ q) := by
  refine vx_ofW (cc := cX1_allows) (maxL := 6) (ret := (some .boolean)) (by decide) rfl ?_
  intro p e s m args below meth c s₁ B hml hth hv
  obtain ⟨rfl, hsz, hX⟩ := hv
  have hx := B.exec
  have hb := B.bytes
  have hr := B.returns
  have hts := atoms_spec (ws := wsX1_allows) B.pre
  have hown : s.vm.findClass RX1 = some m.cls := findClass_of_methodNamed B.named
  have hlocks := B.notSynchronized
  subst hsz
  have hl := lv_entry ([.ref o, .long ad, .int ac, .int md, .int sz]) (n := 6) (Nat.le_of_ble_eq_true rfl)
  rw [lg_entry_eq]
  generalize (lg_sl ([.ref o, .long ad, .int ac, .int md, .int sz]) ++ List.replicate (6 - (lg_sl ([.ref o, .long ad, .int ac, .int md, .int sz])).length) Slot.unset).toArray = ls at hl ⊢
  have hl : lv_has ls 6 [(0, .ref o), (1, .long ad), (3, .int ac), (4, .int md), (5, .int sz)] := hl
  refine lv_lload_n hx hb dX1_allows_0 rfl (lv_at hl 1 rfl) ?_
  refine lv_iload_n hx hb dX1_allows_1 rfl (lv_at hl 2 rfl) ?_
  refine lv_iload hx hb dX1_allows_2 (lv_at hl 3 rfl) ?_
  refine lv_iload hx hb dX1_allows_4 (lv_at hl 4 rfl) ?_
  refine vp_callSi (W.runS (As := [.long ad, .int ac, .int md, .int sz]) (rest := []) ⟨hx, hb, hml, hown, hts⟩ (mtX1_isAccess l ad ac md sz) (va_cwS 4 hts (gAll (mc1 (wa 250 (by decide +kernel) rfl) (mc1 (wa 251 (by decide +kernel) rfl) (mc1 (wa 15 (by decide +kernel) rfl) mc0))) (wa 252 (by decide +kernel) rfl) (by decide +kernel)) rfl rfl rfl (by decide +kernel) ⟨Nat.le_of_ble_eq_true rfl, Nat.le_of_ble_eq_true rfl⟩) preEq rfl rfl hl.1 rfl (lv_room (Nat.le_of_ble_eq_true rfl)) dX1_allows_6 ⟨Nat.le_of_ble_eq_true rfl, Nat.le_of_ble_eq_true rfl⟩) (fun r_1 er_1 => ?_)
  have er_1 : r_1 = (b2i (k_isAccess ad ac md sz)) := er_1
  subst er_1
  refine lv_if_eq (tgt := 19) hx hb dX1_allows_9 (by decide) (fun c_2 => ?_) (fun c_2 => ?_)
  · rw [b2i_z] at c_2
    exact vx_throwS (own := RX1) (cls := xE2) (names := xN) (ik := 45) (is := 86) (ic := 49) (A := fun q => s.heap.size ≤ q) hx hb hl0 hown (by decide +kernel) (by decide +kernel) (hts (.classLink RX1 45 xE2) (wa 195 (by decide +kernel) rfl)) (hts (.initialized xE2) (wa 22 (by decide +kernel) rfl)) hX.1 (vx_hat (B := xBad xE2) (fun w hw => hts w (xg_X1_49 w hw)) xb_X1_49 hX.2.1.all) (by decide +kernel) hX.2.2.1 hX.2.2.2 va_S.rf (by rw [hml]; exact hl.1) dX1_allows_19 dX1_allows_22 dX1_allows_23 dX1_allows_25 dX1_allows_28 (fun x hx => (hth x hx).elim) (Nat.le_of_ble_eq_true rfl) (Nat.le_of_ble_eq_true rfl) (Nat.le_of_ble_eq_true rfl) (Nat.le_of_ble_eq_true rfl) hlocks (fun t hal hsz hk => ⟨(), trivial, rfl, hsz, fun q hq _ => hk q hq⟩) (fun _ h => nomatch h) (Nat.le_refl _) (Nat.le_refl _)
  · rw [b2i_z] at c_2
    rw [Bool.not_eq_false] at c_2
    refine lv_lload_n hx hb dX1_allows_12 rfl (lv_at hl 1 rfl) ?_
    refine vp_callSi (W.runS (As := [.long ad]) (rest := []) ⟨hx, hb, hml, hown, hts⟩ (mtX1_isPhysical l ad) (va_cwS 1 hts (gAll (mc1 (wa 260 (by decide +kernel) rfl) (mc1 (wa 261 (by decide +kernel) rfl) (mc1 (wa 15 (by decide +kernel) rfl) mc0))) (wa 262 (by decide +kernel) rfl) (by decide +kernel)) rfl rfl rfl (by decide +kernel) ⟨Nat.le_of_ble_eq_true rfl, Nat.le_of_ble_eq_true rfl⟩) preEq rfl rfl hl.1 rfl (lv_room (Nat.le_of_ble_eq_true rfl)) dX1_allows_13 ⟨Nat.le_of_ble_eq_true rfl, Nat.le_of_ble_eq_true rfl⟩) (fun r_3 er_3 => ?_)
    have er_3 : r_3 = (b2i (k_isPhysical ad)) := er_3
    subst er_3
    refine lv_if_ne (tgt := 29) hx hb dX1_allows_16 (by decide) (fun c_4 => ?_) (fun c_4 => ?_)
    · rw [b2i_z] at c_4
      rw [Bool.not_eq_false] at c_4
      exact absurd ⟨c_2, c_4⟩ hi
    · rw [b2i_z] at c_4
      exact vx_throwS (own := RX1) (cls := xE2) (names := xN) (ik := 45) (is := 86) (ic := 49) (A := fun q => s.heap.size ≤ q) hx hb hl0 hown (by decide +kernel) (by decide +kernel) (hts (.classLink RX1 45 xE2) (wa 195 (by decide +kernel) rfl)) (hts (.initialized xE2) (wa 22 (by decide +kernel) rfl)) hX.1 (vx_hat (B := xBad xE2) (fun w hw => hts w (xg_X1_49 w hw)) xb_X1_49 hX.2.1.all) (by decide +kernel) hX.2.2.1 hX.2.2.2 va_S.rf (by rw [hml]; exact hl.1) dX1_allows_19 dX1_allows_22 dX1_allows_23 dX1_allows_25 dX1_allows_28 (fun x hx => (hth x hx).elim) (Nat.le_of_ble_eq_true rfl) (Nat.le_of_ble_eq_true rfl) (Nat.le_of_ble_eq_true rfl) (Nat.le_of_ble_eq_true rfl) hlocks (fun t hal hsz hk => ⟨(), trivial, rfl, hsz, fun q hq _ => hk q hq⟩) (fun _ h => nomatch h) (Nat.le_refl _) (Nat.le_refl _)
set_option maxHeartbeats 4000000 in
set_option maxRecDepth 100000 in
theorem thX0_numberOf (l : Launch) (hl0 : l.stackTraces = false) (o : Nat) (hz sa : Nat) (i : Int32) (hi : ¬ (¬ i < 0 ∧ i < 8)) : vx_Met l yX0_numberOf wsX0_numberOf ({ frames := 6, cells := 1, slots := 6, locals := 91 }) (va_Pc [.ref o, .int i] (fun U => U.heap.size = hz ∧ xR RX0 29 "no such region" sa xE1 (fun q => hz ≤ q) U)) (va_Ql (fun (_ : Int64) (_ : Unit) => False) (fun _ _ => True) (fun _ => False)) (vx_X (fun _ : Unit => True) (fun E _ _ => E = xE1) (fun _ => False)) 1 6 (fun q => hz ≤ q) := by
  refine vx_ofW (cc := cX0_numberOf) (maxL := 2) (ret := (some .long)) (by decide) rfl ?_
  intro p e s m args below meth c s₁ B hml hth hv
  obtain ⟨rfl, hsz, hX⟩ := hv
  have hx := B.exec
  have hb := B.bytes
  have hr := B.returns
  have hts := atoms_spec (ws := wsX0_numberOf) B.pre
  have hown : s.vm.findClass RX0 = some m.cls := findClass_of_methodNamed B.named
  have hlocks := B.notSynchronized
  subst hsz
  have hl := lv_entry ([.ref o, .int i]) (n := 2) (Nat.le_of_ble_eq_true rfl)
  rw [lg_entry_eq]
  generalize (lg_sl ([.ref o, .int i]) ++ List.replicate (2 - (lg_sl ([.ref o, .int i])).length) Slot.unset).toArray = ls at hl ⊢
  have hl : lv_has ls 2 [(0, .ref o), (1, .int i)] := hl
  refine lv_iload_n hx hb dX0_numberOf_0 rfl (lv_at hl 1 rfl) ?_
  refine lv_if_lt (tgt := 10) hx hb dX0_numberOf_1 (by decide) (fun c_1 => ?_) (fun c_1 => ?_)
  · exact vx_throwS (own := RX0) (cls := xE1) (names := xN) (ik := 27) (is := 29) (ic := 31) (A := fun q => s.heap.size ≤ q) hx hb hl0 hown (by decide +kernel) (by decide +kernel) (hts (.classLink RX0 27 xE1) (wa 222 (by decide +kernel) rfl)) (hts (.initialized xE1) (wa 21 (by decide +kernel) rfl)) hX.1 (vx_hat (B := xBad xE1) (fun w hw => hts w (xg_X0_31 w hw)) xb_X0_31 hX.2.1.all) (by decide +kernel) hX.2.2.1 hX.2.2.2 va_S.rf (by rw [hml]; exact hl.1) dX0_numberOf_10 dX0_numberOf_13 dX0_numberOf_14 dX0_numberOf_16 dX0_numberOf_19 (fun x hx => (hth x hx).elim) (Nat.le_of_ble_eq_true rfl) (Nat.le_of_ble_eq_true rfl) (Nat.le_of_ble_eq_true rfl) (Nat.le_of_ble_eq_true rfl) hlocks (fun t hal hsz hk => ⟨(), trivial, rfl, hsz, fun q hq _ => hk q hq⟩) (fun _ h => nomatch h) (Nat.le_refl _) (Nat.le_refl _)
  · refine lv_iload_n hx hb dX0_numberOf_4 rfl (lv_at hl 1 rfl) ?_
    refine lv_bipush (v := 8) hx hb dX0_numberOf_5 (by decide) ?_
    refine lv_icmp_lt (tgt := 20) hx hb dX0_numberOf_7 (by decide) (fun c_2 => ?_) (fun c_2 => ?_)
    · exact absurd ⟨c_1, c_2⟩ hi
    · exact vx_throwS (own := RX0) (cls := xE1) (names := xN) (ik := 27) (is := 29) (ic := 31) (A := fun q => s.heap.size ≤ q) hx hb hl0 hown (by decide +kernel) (by decide +kernel) (hts (.classLink RX0 27 xE1) (wa 222 (by decide +kernel) rfl)) (hts (.initialized xE1) (wa 21 (by decide +kernel) rfl)) hX.1 (vx_hat (B := xBad xE1) (fun w hw => hts w (xg_X0_31 w hw)) xb_X0_31 hX.2.1.all) (by decide +kernel) hX.2.2.1 hX.2.2.2 va_S.rf (by rw [hml]; exact hl.1) dX0_numberOf_10 dX0_numberOf_13 dX0_numberOf_14 dX0_numberOf_16 dX0_numberOf_19 (fun x hx => (hth x hx).elim) (Nat.le_of_ble_eq_true rfl) (Nat.le_of_ble_eq_true rfl) (Nat.le_of_ble_eq_true rfl) (Nat.le_of_ble_eq_true rfl) hlocks (fun t hal hsz hk => ⟨(), trivial, rfl, hsz, fun q hq _ => hk q hq⟩) (fun _ h => nomatch h) (Nat.le_refl _) (Nat.le_refl _)
set_option maxHeartbeats 4000000 in
set_option maxRecDepth 100000 in
theorem thX0_takeNumber (l : Launch) (hl0 : l.stackTraces = false) (o : Nat) (hz sa : Nat) (i : Int32) (v : Int64) (hi : ¬ (¬ i < 0 ∧ i < 8)) : vx_Met l yX0_takeNumber wsX0_takeNumber ({ frames := 6, cells := 1, slots := 6, locals := 91 }) (va_Pc [.ref o, .int i, .long v] (fun U => U.heap.size = hz ∧ xR RX0 29 "no such region" sa xE1 (fun q => hz ≤ q) U)) (va_Qv (fun _ : Unit => False) (fun _ _ => True) (fun _ => False)) (vx_X (fun _ : Unit => True) (fun E _ _ => E = xE1) (fun _ => False)) 1 6 (fun q => hz ≤ q) := by
  refine vx_ofW (cc := cX0_takeNumber) (maxL := 5) (ret := none) (by decide) rfl ?_
  intro p e s m args below meth c s₁ B hml hth hv
  obtain ⟨rfl, hsz, hX⟩ := hv
  have hx := B.exec
  have hb := B.bytes
  have hr := B.returns
  have hts := atoms_spec (ws := wsX0_takeNumber) B.pre
  have hown : s.vm.findClass RX0 = some m.cls := findClass_of_methodNamed B.named
  have hlocks := B.notSynchronized
  subst hsz
  have hl := lv_entry ([.ref o, .int i, .long v]) (n := 5) (Nat.le_of_ble_eq_true rfl)
  rw [lg_entry_eq]
  generalize (lg_sl ([.ref o, .int i, .long v]) ++ List.replicate (5 - (lg_sl ([.ref o, .int i, .long v])).length) Slot.unset).toArray = ls at hl ⊢
  have hl : lv_has ls 5 [(0, .ref o), (1, .int i), (2, .long v)] := hl
  refine lv_iload_n hx hb dX0_takeNumber_0 rfl (lv_at hl 1 rfl) ?_
  refine lv_if_lt (tgt := 10) hx hb dX0_takeNumber_1 (by decide) (fun c_1 => ?_) (fun c_1 => ?_)
  · exact vx_throwS (own := RX0) (cls := xE1) (names := xN) (ik := 27) (is := 29) (ic := 31) (A := fun q => s.heap.size ≤ q) hx hb hl0 hown (by decide +kernel) (by decide +kernel) (hts (.classLink RX0 27 xE1) (wa 222 (by decide +kernel) rfl)) (hts (.initialized xE1) (wa 21 (by decide +kernel) rfl)) hX.1 (vx_hat (B := xBad xE1) (fun w hw => hts w (xg_X0_31 w hw)) xb_X0_31 hX.2.1.all) (by decide +kernel) hX.2.2.1 hX.2.2.2 va_S.rf (by rw [hml]; exact hl.1) dX0_takeNumber_10 dX0_takeNumber_13 dX0_takeNumber_14 dX0_takeNumber_16 dX0_takeNumber_19 (fun x hx => (hth x hx).elim) (Nat.le_of_ble_eq_true rfl) (Nat.le_of_ble_eq_true rfl) (Nat.le_of_ble_eq_true rfl) (Nat.le_of_ble_eq_true rfl) hlocks (fun t hal hsz hk => ⟨(), trivial, rfl, hsz, fun q hq _ => hk q hq⟩) (fun _ h => nomatch h) (Nat.le_refl _) (Nat.le_refl _)
  · refine lv_iload_n hx hb dX0_takeNumber_4 rfl (lv_at hl 1 rfl) ?_
    refine lv_bipush (v := 8) hx hb dX0_takeNumber_5 (by decide) ?_
    refine lv_icmp_lt (tgt := 20) hx hb dX0_takeNumber_7 (by decide) (fun c_2 => ?_) (fun c_2 => ?_)
    · exact absurd ⟨c_1, c_2⟩ hi
    · exact vx_throwS (own := RX0) (cls := xE1) (names := xN) (ik := 27) (is := 29) (ic := 31) (A := fun q => s.heap.size ≤ q) hx hb hl0 hown (by decide +kernel) (by decide +kernel) (hts (.classLink RX0 27 xE1) (wa 222 (by decide +kernel) rfl)) (hts (.initialized xE1) (wa 21 (by decide +kernel) rfl)) hX.1 (vx_hat (B := xBad xE1) (fun w hw => hts w (xg_X0_31 w hw)) xb_X0_31 hX.2.1.all) (by decide +kernel) hX.2.2.1 hX.2.2.2 va_S.rf (by rw [hml]; exact hl.1) dX0_takeNumber_10 dX0_takeNumber_13 dX0_takeNumber_14 dX0_takeNumber_16 dX0_takeNumber_19 (fun x hx => (hth x hx).elim) (Nat.le_of_ble_eq_true rfl) (Nat.le_of_ble_eq_true rfl) (Nat.le_of_ble_eq_true rfl) (Nat.le_of_ble_eq_true rfl) hlocks (fun t hal hsz hk => ⟨(), trivial, rfl, hsz, fun q hq _ => hk q hq⟩) (fun _ h => nomatch h) (Nat.le_refl _) (Nat.le_refl _)
set_option maxHeartbeats 4000000 in
set_option maxRecDepth 100000 in
theorem thX1_number (l : Launch) (hl0 : l.stackTraces = false) (dC : Nat → ClassId) (dI : Nat → Nat → Nat) (cL : ClassId) (cI : ClassId) (q0 : Nat) (qw : Nat) (qr : Nat) (qc : Nat) (qn : Nat) (w : Nat → Int64) (tb : Int64) (su : Bool) (mx : Bool) (cf : Nat → Int32) (nu : Nat → Int64) (hz sa : Nat) (i : Int32) (hi : ¬ (¬ i < 0 ∧ i < 8)) : vx_Met l yX1_number wsX1_number ({ frames := 7, cells := 1, slots := 6, locals := 112 }) (va_Pc [.ref q0, .int i] (fun U => U.heap.size = hz ∧ (va_P (dC, dI) vwCl (wPW cL cI q0 qw qr qc qn w tb su mx cf nu) U.heap ∧ va_K (dC, dI) vwCl [(cL, .long), (cI, .int)] U) ∧ xR RX0 29 "no such region" sa xE1 (fun q => hz ≤ q) U)) (va_Ql (fun (_ : Int64) (_ : Unit) => False) (fun _ _ => True) (fun _ => False)) (vx_X (fun _ : Unit => True) (fun E _ _ => E = xE1) (fun _ => False)) 1 6 (fun q => hz ≤ q) := by
  refine vx_ofW (cc := cX1_number) (maxL := 2) (ret := (some .long)) (by decide) rfl ?_
  intro p e s m args below meth c s₁ B hml hth hv
  obtain ⟨rfl, hsz, ⟨hP, hK⟩, hX⟩ := hv
  have hx := B.exec
  have hb := B.bytes
  have hr := B.returns
  have hts := atoms_spec (ws := wsX1_number) B.pre
  have hown : s.vm.findClass RX1 = some m.cls := findClass_of_methodNamed B.named
  have hlocks := B.notSynchronized
  subst hsz
  have hP : va_P (dC, dI) vwCl [(q0, .inr (1, [.ref qw, .ref qr, .long tb, .int (b2i su), .int (b2i mx)])), (qw, .inl (cL, 8192, .inr (.inl w))), (qr, .inr (0, [.ref qc, .ref qn])), (qc, .inl (cI, 8, .inl cf)), (qn, .inl (cL, 8, .inr (.inl nu)))] s.heap := hP
  have hl := lv_entry ([.ref q0, .int i]) (n := 2) (Nat.le_of_ble_eq_true rfl)
  rw [lg_entry_eq]
  generalize (lg_sl ([.ref q0, .int i]) ++ List.replicate (2 - (lg_sl ([.ref q0, .int i])).length) Slot.unset).toArray = ls at hl ⊢
  have hl : lv_has ls 2 [(0, .ref q0), (1, .int i)] := hl
  refine lv_aload_n hx hb dX1_number_0 rfl (lv_at hl 0 rfl) ?_
  refine va_get (D := (dC, dI)) (ci := 1) (v := .ref qr) (C := RX1) (T := TX1) (N := 5) hx hb hts iwX1 hown hK hP 0 rfl rfl 1 (by decide) (hts (.fieldLink RX1 16 RX1 "regions" "LPageWalker$Regions;") (wa 47 (by decide +kernel) rfl)) (fun _ h9 => h9) rfl dX1_number_1 ?_
  refine lv_iload_n hx hb dX1_number_4 rfl (lv_at hl 1 rfl) ?_
  refine vx_calll (A0 := fun q => s.heap.size ≤ q) (vx_runV (As := [.int i]) (rest := []) ⟨hx, hb, hml, hown, hts⟩ (thX0_numberOf l hl0 qr s.heap.size sa i hi) (cwV 1 hts (gAll (mc1 (wa 218 (by decide +kernel) rfl) (mc1 (wa 219 (by decide +kernel) rfl) (mc1 (wa 220 (by decide +kernel) rfl) (mc1 (wa 16 (by decide +kernel) rfl) mc0)))) (wa 221 (by decide +kernel) rfl) (by decide +kernel)) rfl rfl rfl (by decide +kernel) ⟨Nat.le_of_ble_eq_true rfl, Nat.le_of_ble_eq_true rfl⟩) (xr_pre (ci := 0) (q0 := 0) hK (hP.sub (ws' := (wRG cL cI qr qc qn cf nu)) [2, 3, 4] rfl) rfl rfl hX va_S.rf (fun _ h => h)) rfl rfl hl.1 rfl (lv_room (Nat.le_of_ble_eq_true rfl)) dX1_number_5 ⟨Nat.le_of_ble_eq_true rfl, Nat.le_of_ble_eq_true rfl⟩) va_S.rf (fun _ _ h => h.elim) (fun _ h => h) (fun _ _ h => h.elim) (fun E ce q9 u t H1 locs ht hvm hpx hE hz1 hk1 hS hce hcv hcl => ?_) (fun r u t H1 locs ht hvm hpx => hpx.elim)
  exact vx_out (fun x hx => (hth x hx).elim) hlocks hce hcv hcl (fun t ht2 _ => ⟨(), trivial, hE, by rw [ht2]; exact hz1, fun q hq hn => by rw [ht2]; exact hk1 q hq hn⟩) hS.2.2 (Nat.le_of_ble_eq_true rfl) (Nat.le_of_ble_eq_true rfl)
set_option maxHeartbeats 4000000 in
set_option maxRecDepth 100000 in
theorem thX1_setNumber (l : Launch) (hl0 : l.stackTraces = false) (dC : Nat → ClassId) (dI : Nat → Nat → Nat) (cL : ClassId) (cI : ClassId) (q0 : Nat) (qw : Nat) (qr : Nat) (qc : Nat) (qn : Nat) (w : Nat → Int64) (tb : Int64) (su : Bool) (mx : Bool) (cf : Nat → Int32) (nu : Nat → Int64) (hz sa : Nat) (i : Int32) (v : Int64) (hi : ¬ (¬ i < 0 ∧ i < 8)) : vx_Met l yX1_setNumber wsX1_setNumber ({ frames := 7, cells := 1, slots := 6, locals := 115 }) (va_Pc [.ref q0, .int i, .long v] (fun U => U.heap.size = hz ∧ (va_P (dC, dI) vwCl (wPW cL cI q0 qw qr qc qn w tb su mx cf nu) U.heap ∧ va_K (dC, dI) vwCl [(cL, .long), (cI, .int)] U) ∧ xR RX0 29 "no such region" sa xE1 (fun q => hz ≤ q) U)) (va_Qv (fun _ : Unit => False) (fun _ _ => True) (fun _ => False)) (vx_X (fun _ : Unit => True) (fun E _ _ => E = xE1) (fun _ => False)) 1 6 (fun q => hz ≤ q) := by
  refine vx_ofW (cc := cX1_setNumber) (maxL := 4) (ret := none) (by decide) rfl ?_
  intro p e s m args below meth c s₁ B hml hth hv
  obtain ⟨rfl, hsz, ⟨hP, hK⟩, hX⟩ := hv
  have hx := B.exec
  have hb := B.bytes
  have hr := B.returns
  have hts := atoms_spec (ws := wsX1_setNumber) B.pre
  have hown : s.vm.findClass RX1 = some m.cls := findClass_of_methodNamed B.named
  have hlocks := B.notSynchronized
  subst hsz
  have hP : va_P (dC, dI) vwCl [(q0, .inr (1, [.ref qw, .ref qr, .long tb, .int (b2i su), .int (b2i mx)])), (qw, .inl (cL, 8192, .inr (.inl w))), (qr, .inr (0, [.ref qc, .ref qn])), (qc, .inl (cI, 8, .inl cf)), (qn, .inl (cL, 8, .inr (.inl nu)))] s.heap := hP
  have hl := lv_entry ([.ref q0, .int i, .long v]) (n := 4) (Nat.le_of_ble_eq_true rfl)
  rw [lg_entry_eq]
  generalize (lg_sl ([.ref q0, .int i, .long v]) ++ List.replicate (4 - (lg_sl ([.ref q0, .int i, .long v])).length) Slot.unset).toArray = ls at hl ⊢
  have hl : lv_has ls 4 [(0, .ref q0), (1, .int i), (2, .long v)] := hl
  refine lv_aload_n hx hb dX1_setNumber_0 rfl (lv_at hl 0 rfl) ?_
  refine va_get (D := (dC, dI)) (ci := 1) (v := .ref qr) (C := RX1) (T := TX1) (N := 5) hx hb hts iwX1 hown hK hP 0 rfl rfl 1 (by decide) (hts (.fieldLink RX1 16 RX1 "regions" "LPageWalker$Regions;") (wa 47 (by decide +kernel) rfl)) (fun _ h9 => h9) rfl dX1_setNumber_1 ?_
  refine lv_iload_n hx hb dX1_setNumber_4 rfl (lv_at hl 1 rfl) ?_
  refine lv_lload_n hx hb dX1_setNumber_5 rfl (lv_at hl 2 rfl) ?_
  refine vx_callv (A0 := fun q => s.heap.size ≤ q) (vx_runV (As := [.int i, .long v]) (rest := []) ⟨hx, hb, hml, hown, hts⟩ (thX0_takeNumber l hl0 qr s.heap.size sa i v hi) (cwV 2 hts (gAll (mc1 (wa 232 (by decide +kernel) rfl) (mc1 (wa 233 (by decide +kernel) rfl) (mc1 (wa 234 (by decide +kernel) rfl) (mc1 (wa 16 (by decide +kernel) rfl) mc0)))) (wa 235 (by decide +kernel) rfl) (by decide +kernel)) rfl rfl rfl (by decide +kernel) ⟨Nat.le_of_ble_eq_true rfl, Nat.le_of_ble_eq_true rfl⟩) (xr_pre (ci := 0) (q0 := 0) hK (hP.sub (ws' := (wRG cL cI qr qc qn cf nu)) [2, 3, 4] rfl) rfl rfl hX va_S.rf (fun _ h => h)) rfl rfl hl.1 rfl (lv_room (Nat.le_of_ble_eq_true rfl)) dX1_setNumber_6 ⟨Nat.le_of_ble_eq_true rfl, Nat.le_of_ble_eq_true rfl⟩) va_S.rf (fun _ _ h => h.elim) (fun _ h => h) (fun _ _ h => h.elim) (fun E ce q9 u t H1 locs ht hvm hpx hE hz1 hk1 hS hce hcv hcl => ?_) (fun u t H1 locs ht hvm hpx => hpx.elim)
  exact vx_out (fun x hx => (hth x hx).elim) hlocks hce hcv hcl (fun t ht2 _ => ⟨(), trivial, hE, by rw [ht2]; exact hz1, fun q hq hn => by rw [ht2]; exact hk1 q hq hn⟩) hS.2.2 (Nat.le_of_ble_eq_true rfl) (Nat.le_of_ble_eq_true rfl)
