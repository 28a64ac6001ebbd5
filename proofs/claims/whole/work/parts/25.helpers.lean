abbrev wHO (cL cI : ClassId) (q0 qw qr qc qn : Nat) (w : Nat → Int64) (tb : Int64) (su mx : Bool) (cf : Nat → Int32) (nu : Nat → Int64) (qo : Nat) (ov : Nat → Int64) : va_W := (qo, .inl (cL, 1, .inr (.inl ov))) :: wPW cL cI q0 qw qr qc qn w tb su mx cf nu
set_option maxHeartbeats 400000 in
set_option maxRecDepth 100000 in
theorem mtL_word (l : Launch) (dC : Nat → ClassId) (dI : Nat → Nat → Nat) (cL : ClassId) (cI : ClassId) (q0 : Nat) (qw : Nat) (qr : Nat) (qc : Nat) (qn : Nat) (w : Nat → Int64) (tb : Int64) (su : Bool) (mx : Bool) (cf : Nat → Int32) (nu : Nat → Int64) (qo : Nat) (ov : Nat → Int64) (hz : Nat) (ad : Int64) (hi : ¬ k_wordIndex ad = -1) : Met l yL_word wsL_word ({ frames := 2, cells := 0, slots := 0, locals := 46 }) (va_Pc [.ref q0, .long ad, .ref qo] (fun U => U.heap.size = hz ∧ va_P (dC, dI) vwCl (wHO cL cI q0 qw qr qc qn w tb su mx cf nu qo ov) U.heap ∧ va_K (dC, dI) vwCl [(cL, .long), (cI, .int)] U ∧ va_D (fun _ => True) (wHO cL cI q0 qw qr qc qn w tb su mx cf nu qo ov))) (va_Qi (fun r (_ : Unit) => r = 0) (fun _ t => va_P (dC, dI) vwCl (wHO cL cI q0 qw qr qc qn w tb su mx cf nu qo (vp_updL ov 0 (k_at w ad))) t.heap ∧ va_K (dC, dI) vwCl [(cL, .long), (cI, .int)] t ∧ va_D (va_A (wHO cL cI q0 qw qr qc qn w tb su mx cf nu qo ov) hz) (wHO cL cI q0 qw qr qc qn w tb su mx cf nu qo (vp_updL ov 0 (k_at w ad)))) (va_A (wHO cL cI q0 qw qr qc qn w tb su mx cf nu qo ov) hz)) 0 0 (va_A (wHO cL cI q0 qw qr qc qn w tb su mx cf nu qo ov) hz) := by
  refine va_MetW (cc := cL_word) (maxL := 5) (ret := (some .int)) (hh := [(0, 8, 11, 13)]) (by decide) rfl ?_
  intro p e s m args below meth c s₁ B hml hv
  obtain ⟨rfl, hsz, hP, hK, hD0⟩ := hv
  have hx := B.exec
  have hb := B.bytes
  have hr := B.returns
  have hts := atoms_spec (ws := wsL_word) B.pre
  have hown : s.vm.findClass RL = some m.cls := findClass_of_methodNamed B.named
  have hlocks := B.notSynchronized
  subst hsz
  have hD := hD0.self (sz := s.heap.size)
  generalize hAe : va_A (wHO cL cI q0 qw qr qc qn w tb su mx cf nu qo ov) s.heap.size = A at hD ⊢
  have hA : ∀ q : Nat, s.heap.size ≤ q → A q := fun q h => by rw [← hAe]; exact Or.inr h
  have hS : va_S A s.heap s.heap [] := va_S.rf
  have hP : va_P (dC, dI) vwCl [(qo, .inl (cL, 1, .inr (.inl ov))), (q0, .inr (1, [.ref qw, .ref qr, .long tb, .int (b2i su), .int (b2i mx)])), (qw, .inl (cL, 8192, .inr (.inl w))), (qr, .inr (0, [.ref qc, .ref qn])), (qc, .inl (cI, 8, .inl cf)), (qn, .inl (cL, 8, .inr (.inl nu)))] s.heap := hP
  have hD : va_D A [(qo, .inl (cL, 1, .inr (.inl ov))), (q0, .inr (1, [.ref qw, .ref qr, .long tb, .int (b2i su), .int (b2i mx)])), (qw, .inl (cL, 8192, .inr (.inl w))), (qr, .inr (0, [.ref qc, .ref qn])), (qc, .inl (cI, 8, .inl cf)), (qn, .inl (cL, 8, .inr (.inl nu)))] := hD
  have hl := lv_entry ([.ref q0, .long ad, .ref qo]) (n := 5) (Nat.le_of_ble_eq_true rfl)
  rw [lg_entry_eq]
  generalize (lg_sl ([.ref q0, .long ad, .ref qo]) ++ List.replicate (5 - (lg_sl ([.ref q0, .long ad, .ref qo])).length) Slot.unset).toArray = ls at hl ⊢
  have hl : lv_has ls 5 [(0, .ref q0), (1, .long ad), (3, .ref qo)] := hl
  refine lv_aload_n hx hb dL_word_0 rfl (lv_at hl 2 rfl) ?_
  refine lv_iconst (v := 0) hx hb dL_word_1 (by decide) ?_
  refine lv_aload_n hx hb dL_word_2 rfl (lv_at hl 0 rfl) ?_
  refine lv_lload_n hx hb dL_word_3 rfl (lv_at hl 1 rfl) ?_
  refine vp_callSl (W.runV (As := [.long ad]) (rest := [.int 0, .ref qo]) ⟨hx, hb, hml, hown, hts⟩ (mtX1_word l dC dI cL cI q0 qw qr qc qn w tb su mx cf nu ad (hi)) (cwV 1 hts (gAll (mc1 (wa 100 (by decide +kernel) rfl) (mc1 (wa 101 (by decide +kernel) rfl) (mc1 (wa 102 (by decide +kernel) rfl) (mc1 (wa 15 (by decide +kernel) rfl) mc0)))) (wa 103 (by decide +kernel) rfl) (by decide +kernel)) rfl rfl rfl (by decide +kernel) ⟨Nat.le_of_ble_eq_true rfl, Nat.le_of_ble_eq_true rfl⟩) (rd_pre (ci := 1) (q0 := 0) hK (hP.sub (ws' := (wPW cL cI q0 qw qr qc qn w tb su mx cf nu)) [1, 2, 3, 4, 5] rfl) rfl rfl) rfl rfl hl.1 rfl (lv_room (Nat.le_of_ble_eq_true rfl)) dL_word_4 ⟨Nat.le_of_ble_eq_true rfl, Nat.le_of_ble_eq_true rfl⟩) (fun r_1 er_1 => ?_)
  have er_1 : r_1 = (k_at w ad) := er_1
  subst er_1
  refine va_last hx hb hK hP hD hS 0 0 rfl rfl (pk_in 0 1 (by decide)) dL_word_7 (fun H locs hP hD hS => ?_)
  have hP : va_P (dC, dI) vwCl [(qo, .inl (cL, 1, .inr (.inl (vp_updL ov 0 (k_at w ad))))), (q0, .inr (1, [.ref qw, .ref qr, .long tb, .int (b2i su), .int (b2i mx)])), (qw, .inl (cL, 8192, .inr (.inl w))), (qr, .inr (0, [.ref qc, .ref qn])), (qc, .inl (cI, 8, .inl cf)), (qn, .inl (cL, 8, .inr (.inl nu)))] H := by have h9 := hP; simp only [List.set] at h9; rw [sb_cl0] at h9; exact h9
  have hD : va_D A [(qo, .inl (cL, 1, .inr (.inl (vp_updL ov 0 (k_at w ad))))), (q0, .inr (1, [.ref qw, .ref qr, .long tb, .int (b2i su), .int (b2i mx)])), (qw, .inl (cL, 8192, .inr (.inl w))), (qr, .inr (0, [.ref qc, .ref qn])), (qc, .inl (cI, 8, .inl cf)), (qn, .inl (cL, 8, .inr (.inl nu)))] := by have h9 := hD; simp only [List.set] at h9; rw [sb_cl0] at h9; exact h9
  refine lv_goto (tgt := 15) hx hb dL_word_8 (by decide) ?_
  refine lv_iconst (v := 0) hx hb dL_word_15 (by decide) ?_
  have hP9 : va_P (dC, dI) vwCl (wHO cL cI q0 qw qr qc qn w tb su mx cf nu qo (vp_updL ov 0 (k_at w ad))) H := hP
  have hD9 : va_D A (wHO cL cI q0 qw qr qc qn w tb su mx cf nu qo (vp_updL ov 0 (k_at w ad))) := hD
  exact W.iret (v := 0) hx hb hr (fun t ht hW => ⟨⟨0, (), rfl, rfl, (by rw [ht]; exact hP9), va_K.moved hW.alike hK, hD9⟩, hS.F ht⟩) hS.2.2 dL_word_16
set_option maxHeartbeats 400000 in
set_option maxRecDepth 100000 in
theorem mtL_word_no (l : Launch) (hl0 : l.stackTraces = false) (dC : Nat → ClassId) (dI : Nat → Nat → Nat) (cL : ClassId) (cI : ClassId) (q0 : Nat) (qw : Nat) (qr : Nat) (qc : Nat) (qn : Nat) (w : Nat → Int64) (tb : Int64) (su : Bool) (mx : Bool) (cf : Nat → Int32) (nu : Nat → Int64) (qo : Nat) (ov : Nat → Int64) (hz sa : Nat) (ad : Int64) (hi : k_wordIndex ad = -1) : Met l yL_word wsL_word ({ frames := 7, cells := 1, slots := 6, locals := 114 }) (va_Pc [.ref q0, .long ad, .ref qo] (fun U => U.heap.size = hz ∧ va_P (dC, dI) vwCl (wHO cL cI q0 qw qr qc qn w tb su mx cf nu qo ov) U.heap ∧ va_K (dC, dI) vwCl [(cL, .long), (cI, .int)] U ∧ va_D (fun _ => True) (wHO cL cI q0 qw qr qc qn w tb su mx cf nu qo ov) ∧ xR RX1 37 "no word of memory is there" sa xE1 (va_A (wHO cL cI q0 qw qr qc qn w tb su mx cf nu qo ov) hz) U)) (va_Qi (fun r (_ : Unit) => r = 1) (fun _ t => va_P (dC, dI) vwCl (wHO cL cI q0 qw qr qc qn w tb su mx cf nu qo ov) t.heap ∧ va_K (dC, dI) vwCl [(cL, .long), (cI, .int)] t ∧ va_D (va_A (wHO cL cI q0 qw qr qc qn w tb su mx cf nu qo ov) hz) (wHO cL cI q0 qw qr qc qn w tb su mx cf nu qo ov)) (va_A (wHO cL cI q0 qw qr qc qn w tb su mx cf nu qo ov) hz)) 1 6 (va_A (wHO cL cI q0 qw qr qc qn w tb su mx cf nu qo ov) hz) := by
  refine va_MetW (cc := cL_word) (maxL := 5) (ret := (some .int)) (hh := [(0, 8, 11, 13)]) (by decide) rfl ?_
  intro p e s m args below meth c s₁ B hml hv
  obtain ⟨rfl, hsz, hP, hK, hD0, hX⟩ := hv
  have hx := B.exec
  have hb := B.bytes
  have hr := B.returns
  have hts := atoms_spec (ws := wsL_word) B.pre
  have hown : s.vm.findClass RL = some m.cls := findClass_of_methodNamed B.named
  have hlocks := B.notSynchronized
  subst hsz
  have hD := hD0.self (sz := s.heap.size)
  generalize hAe : va_A (wHO cL cI q0 qw qr qc qn w tb su mx cf nu qo ov) s.heap.size = A at hD ⊢ hX
  have hA : ∀ q : Nat, s.heap.size ≤ q → A q := fun q h => by rw [← hAe]; exact Or.inr h
  have hS : va_S A s.heap s.heap [] := va_S.rf
  have hP : va_P (dC, dI) vwCl [(qo, .inl (cL, 1, .inr (.inl ov))), (q0, .inr (1, [.ref qw, .ref qr, .long tb, .int (b2i su), .int (b2i mx)])), (qw, .inl (cL, 8192, .inr (.inl w))), (qr, .inr (0, [.ref qc, .ref qn])), (qc, .inl (cI, 8, .inl cf)), (qn, .inl (cL, 8, .inr (.inl nu)))] s.heap := hP
  have hD : va_D A [(qo, .inl (cL, 1, .inr (.inl ov))), (q0, .inr (1, [.ref qw, .ref qr, .long tb, .int (b2i su), .int (b2i mx)])), (qw, .inl (cL, 8192, .inr (.inl w))), (qr, .inr (0, [.ref qc, .ref qn])), (qc, .inl (cI, 8, .inl cf)), (qn, .inl (cL, 8, .inr (.inl nu)))] := hD
  have htab : c.exceptionTable.toList = [⟨0, 8, 11, 13⟩] := vx_table (x := yL_word) B (hts kL_word List.mem_cons_self)
  have hl := lv_entry ([.ref q0, .long ad, .ref qo]) (n := 5) (Nat.le_of_ble_eq_true rfl)
  rw [lg_entry_eq]
  generalize (lg_sl ([.ref q0, .long ad, .ref qo]) ++ List.replicate (5 - (lg_sl ([.ref q0, .long ad, .ref qo])).length) Slot.unset).toArray = ls at hl ⊢
  have hl : lv_has ls 5 [(0, .ref q0), (1, .long ad), (3, .ref qo)] := hl
  refine lv_aload_n hx hb dL_word_0 rfl (lv_at hl 2 rfl) ?_
  refine lv_iconst (v := 0) hx hb dL_word_1 (by decide) ?_
  refine lv_aload_n hx hb dL_word_2 rfl (lv_at hl 0 rfl) ?_
  refine lv_lload_n hx hb dL_word_3 rfl (lv_at hl 1 rfl) ?_
  refine vx_calll (vx_runV (As := [.long ad]) (rest := [.int 0, .ref qo]) ⟨hx, hb, hml, hown, hts⟩ (thX1_word l hl0 q0 s.heap.size sa ad hi) (cwV 1 hts (gAll (mc1 (wa 100 (by decide +kernel) rfl) (mc1 (wa 101 (by decide +kernel) rfl) (mc1 (wa 102 (by decide +kernel) rfl) (mc1 (wa 15 (by decide +kernel) rfl) mc0)))) (wa 103 (by decide +kernel) rfl) (by decide +kernel)) rfl rfl rfl (by decide +kernel) ⟨Nat.le_of_ble_eq_true rfl, Nat.le_of_ble_eq_true rfl⟩) (xr_pre (ci := 1) (q0 := 0) hK (hP.sub (ws' := (wPW cL cI q0 qw qr qc qn w tb su mx cf nu)) [1, 2, 3, 4, 5] rfl) rfl rfl hX hS hA) rfl rfl hl.1 rfl (lv_room (Nat.le_of_ble_eq_true rfl)) dL_word_4 ⟨Nat.le_of_ble_eq_true rfl, Nat.le_of_ble_eq_true rfl⟩) hS (fun _ _ h => h.elim) (fun q h => hA q h) (fun _ _ h => h.elim) (fun E9 ce q9 u t H1 locs ht hvm hpx hE hz1 hk1 hS hce hcv hcl => ?_) (fun r u t H1 locs ht hvm hpx => hpx.elim)
  have hP : va_P (dC, dI) vwCl [(qo, .inl (cL, 1, .inr (.inl ov))), (q0, .inr (1, [.ref qw, .ref qr, .long tb, .int (b2i su), .int (b2i mx)])), (qw, .inl (cL, 8192, .inr (.inl w))), (qr, .inr (0, [.ref qc, .ref qn])), (qc, .inl (cI, 8, .inl cf)), (qn, .inl (cL, 8, .inr (.inl nu)))] H1 := hP.kept (fun k q hk => hk1 q.1 (hP k q hk).lt (fun h => h))
  refine vx_catch (name := xE1) hown [] ⟨0, 8, 11, 13⟩ [] htab (fun z hz => nomatch hz) (by decide) (by decide) (hts (.classLink RL 13 xE1) (wa 99 (by decide +kernel) rfl)) (by have h9 := hX.2.1.2.2.2; rw [show E9 = xE1 from hE]; exact va_Nw.use rfl h9) hce hcv hcl ?_
  refine lv_astore (lv' := [(4, .ref q9), (0, .ref q0), (1, .long ad), (3, .ref qo)]) hx hb dL_word_11 hl (by decide) rfl (fun ls hl => ?_)
  refine lv_iconst (v := 1) hx hb dL_word_13 (by decide) ?_
  have hP9 : va_P (dC, dI) vwCl (wHO cL cI q0 qw qr qc qn w tb su mx cf nu qo ov) H1 := hP
  have hD9 : va_D A (wHO cL cI q0 qw qr qc qn w tb su mx cf nu qo ov) := hD
  exact W.iret (v := 1) hx hb hr (fun t ht hW => ⟨⟨1, (), rfl, rfl, (by rw [ht]; exact hP9), va_K.moved hW.alike hK, hD9⟩, hS.F ht⟩) hS.2.2 dL_word_14
set_option maxHeartbeats 400000 in
set_option maxRecDepth 100000 in
theorem mtL_put (l : Launch) (dC : Nat → ClassId) (dI : Nat → Nat → Nat) (cL : ClassId) (cI : ClassId) (q0 : Nat) (qw : Nat) (qr : Nat) (qc : Nat) (qn : Nat) (w : Nat → Int64) (tb : Int64) (su : Bool) (mx : Bool) (cf : Nat → Int32) (nu : Nat → Int64) (hz : Nat) (ad : Int64) (v : Int64) (hi : ¬ k_wordIndex ad = -1) : Met l yL_put wsL_put ({ frames := 2, cells := 0, slots := 0, locals := 48 }) (va_Pc [.ref q0, .long ad, .long v] (fun U => U.heap.size = hz ∧ va_P (dC, dI) vwCl (wPW cL cI q0 qw qr qc qn w tb su mx cf nu) U.heap ∧ va_K (dC, dI) vwCl [(cL, .long), (cI, .int)] U ∧ va_D (fun _ => True) (wPW cL cI q0 qw qr qc qn w tb su mx cf nu))) (va_Qi (fun r (_ : Unit) => r = 0) (fun _ t => va_P (dC, dI) vwCl (wPW cL cI q0 qw qr qc qn (vp_updL w (Int32.toNatClampNeg (k_wordIndex ad)) v) tb su mx cf nu) t.heap ∧ va_K (dC, dI) vwCl [(cL, .long), (cI, .int)] t ∧ va_D (va_A (wPW cL cI q0 qw qr qc qn w tb su mx cf nu) hz) (wPW cL cI q0 qw qr qc qn (vp_updL w (Int32.toNatClampNeg (k_wordIndex ad)) v) tb su mx cf nu)) (va_A (wPW cL cI q0 qw qr qc qn w tb su mx cf nu) hz)) 0 0 (va_A (wPW cL cI q0 qw qr qc qn w tb su mx cf nu) hz) := by
  refine va_MetW (cc := cL_put) (maxL := 6) (ret := (some .int)) (hh := [(0, 6, 9, 13)]) (by decide) rfl ?_
  intro p e s m args below meth c s₁ B hml hv
  obtain ⟨rfl, hsz, hP, hK, hD0⟩ := hv
  have hx := B.exec
  have hb := B.bytes
  have hr := B.returns
  have hts := atoms_spec (ws := wsL_put) B.pre
  have hown : s.vm.findClass RL = some m.cls := findClass_of_methodNamed B.named
  have hlocks := B.notSynchronized
  subst hsz
  have hD := hD0.self (sz := s.heap.size)
  generalize hAe : va_A (wPW cL cI q0 qw qr qc qn w tb su mx cf nu) s.heap.size = A at hD ⊢
  have hA : ∀ q : Nat, s.heap.size ≤ q → A q := fun q h => by rw [← hAe]; exact Or.inr h
  have hS : va_S A s.heap s.heap [] := va_S.rf
  have hP : va_P (dC, dI) vwCl [(q0, .inr (1, [.ref qw, .ref qr, .long tb, .int (b2i su), .int (b2i mx)])), (qw, .inl (cL, 8192, .inr (.inl w))), (qr, .inr (0, [.ref qc, .ref qn])), (qc, .inl (cI, 8, .inl cf)), (qn, .inl (cL, 8, .inr (.inl nu)))] s.heap := hP
  have hD : va_D A [(q0, .inr (1, [.ref qw, .ref qr, .long tb, .int (b2i su), .int (b2i mx)])), (qw, .inl (cL, 8192, .inr (.inl w))), (qr, .inr (0, [.ref qc, .ref qn])), (qc, .inl (cI, 8, .inl cf)), (qn, .inl (cL, 8, .inr (.inl nu)))] := hD
  have hl := lv_entry ([.ref q0, .long ad, .long v]) (n := 6) (Nat.le_of_ble_eq_true rfl)
  rw [lg_entry_eq]
  generalize (lg_sl ([.ref q0, .long ad, .long v]) ++ List.replicate (6 - (lg_sl ([.ref q0, .long ad, .long v])).length) Slot.unset).toArray = ls at hl ⊢
  have hl : lv_has ls 6 [(0, .ref q0), (1, .long ad), (3, .long v)] := hl
  refine lv_aload_n hx hb dL_put_0 rfl (lv_at hl 0 rfl) ?_
  refine lv_lload_n hx hb dL_put_1 rfl (lv_at hl 1 rfl) ?_
  refine lv_lload_n hx hb dL_put_2 rfl (lv_at hl 2 rfl) ?_
  have hPc := hP.sub (ws' := (wPW cL cI q0 qw qr qc qn w tb su mx cf nu)) [0, 1, 2, 3, 4] rfl
  have hDc := hD.sub (ws' := (wPW cL cI q0 qw qr qc qn w tb su mx cf nu)) [0, 1, 2, 3, 4] (by decide) rfl
  have hFc := va_free (wc := (wPW cL cI q0 qw qr qc qn w tb su mx cf nu)) hD hS hA [0, 1, 2, 3, 4] rfl
  refine va_callv (va_runV (As := [.long ad, .long v]) (rest := []) ⟨hx, hb, hml, hown, hts⟩ (mtX1_put l dC dI cL cI q0 qw qr qc qn w tb su mx cf nu s.heap.size ad v (hi)) (cwV 2 hts (gAll (mc1 (wa 180 (by decide +kernel) rfl) (mc1 (wa 181 (by decide +kernel) rfl) (mc1 (wa 182 (by decide +kernel) rfl) (mc1 (wa 15 (by decide +kernel) rfl) mc0)))) (wa 183 (by decide +kernel) rfl) (by decide +kernel)) rfl rfl rfl (by decide +kernel) ⟨Nat.le_of_ble_eq_true rfl, Nat.le_of_ble_eq_true rfl⟩) (mu_pre (ci := 1) (q0 := 0) hK hPc hDc rfl rfl) rfl rfl hl.1 rfl (lv_room (Nat.le_of_ble_eq_true rfl)) dL_put_3 ⟨Nat.le_of_ble_eq_true rfl, Nat.le_of_ble_eq_true rfl⟩) hS (fun q _ h => hFc q h) hFc (fun u t H1 locs ht hvm hpo hB hz1 hk1 hS => ?_)
  obtain ⟨hP1, hK1, hD1⟩ := hB
  rw [ht] at hP1
  obtain ⟨hP, hD⟩ := va_join (wr := []) (w1 := (wPW cL cI q0 qw qr qc qn (vp_updL w (Int32.toNatClampNeg (k_wordIndex ad)) v) tb su mx cf nu)) hP hD [0, 1, 2, 3, 4] [] rfl rfl (by decide) (by decide) hk1 hFc hP1 hD1
  generalize H1 = H at hP hS ⊢
  have hP : va_P (dC, dI) vwCl [(q0, .inr (1, [.ref qw, .ref qr, .long tb, .int (b2i su), .int (b2i mx)])), (qw, .inl (cL, 8192, .inr (.inl (vp_updL w (Int32.toNatClampNeg (k_wordIndex ad)) v)))), (qr, .inr (0, [.ref qc, .ref qn])), (qc, .inl (cI, 8, .inl cf)), (qn, .inl (cL, 8, .inr (.inl nu)))] H := hP
  have hD : va_D A [(q0, .inr (1, [.ref qw, .ref qr, .long tb, .int (b2i su), .int (b2i mx)])), (qw, .inl (cL, 8192, .inr (.inl (vp_updL w (Int32.toNatClampNeg (k_wordIndex ad)) v)))), (qr, .inr (0, [.ref qc, .ref qn])), (qc, .inl (cI, 8, .inl cf)), (qn, .inl (cL, 8, .inr (.inl nu)))] := hD
  refine lv_goto (tgt := 13) hx hb dL_put_6 (by decide) ?_
  refine lv_iconst (v := 0) hx hb dL_put_13 (by decide) ?_
  have hP9 : va_P (dC, dI) vwCl (wPW cL cI q0 qw qr qc qn (vp_updL w (Int32.toNatClampNeg (k_wordIndex ad)) v) tb su mx cf nu) H := hP
  have hD9 : va_D A (wPW cL cI q0 qw qr qc qn (vp_updL w (Int32.toNatClampNeg (k_wordIndex ad)) v) tb su mx cf nu) := hD
  exact W.iret (v := 0) hx hb hr (fun t ht hW => ⟨⟨0, (), rfl, rfl, (by rw [ht]; exact hP9), va_K.moved hW.alike hK, hD9⟩, hS.F ht⟩) hS.2.2 dL_put_14
set_option maxHeartbeats 400000 in
set_option maxRecDepth 100000 in
theorem mtL_put_no (l : Launch) (hl0 : l.stackTraces = false) (dC : Nat → ClassId) (dI : Nat → Nat → Nat) (cL : ClassId) (cI : ClassId) (q0 : Nat) (qw : Nat) (qr : Nat) (qc : Nat) (qn : Nat) (w : Nat → Int64) (tb : Int64) (su : Bool) (mx : Bool) (cf : Nat → Int32) (nu : Nat → Int64) (hz sa : Nat) (ad : Int64) (v : Int64) (hi : k_wordIndex ad = -1) : Met l yL_put wsL_put ({ frames := 7, cells := 1, slots := 6, locals := 116 }) (va_Pc [.ref q0, .long ad, .long v] (fun U => U.heap.size = hz ∧ va_P (dC, dI) vwCl (wPW cL cI q0 qw qr qc qn w tb su mx cf nu) U.heap ∧ va_K (dC, dI) vwCl [(cL, .long), (cI, .int)] U ∧ va_D (fun _ => True) (wPW cL cI q0 qw qr qc qn w tb su mx cf nu) ∧ xR RX1 37 "no word of memory is there" sa xE1 (va_A (wPW cL cI q0 qw qr qc qn w tb su mx cf nu) hz) U)) (va_Qi (fun r (_ : Unit) => r = 1) (fun _ t => va_P (dC, dI) vwCl (wPW cL cI q0 qw qr qc qn w tb su mx cf nu) t.heap ∧ va_K (dC, dI) vwCl [(cL, .long), (cI, .int)] t ∧ va_D (va_A (wPW cL cI q0 qw qr qc qn w tb su mx cf nu) hz) (wPW cL cI q0 qw qr qc qn w tb su mx cf nu)) (va_A (wPW cL cI q0 qw qr qc qn w tb su mx cf nu) hz)) 1 6 (va_A (wPW cL cI q0 qw qr qc qn w tb su mx cf nu) hz) := by
  refine va_MetW (cc := cL_put) (maxL := 6) (ret := (some .int)) (hh := [(0, 6, 9, 13)]) (by decide) rfl ?_
  intro p e s m args below meth c s₁ B hml hv
  obtain ⟨rfl, hsz, hP, hK, hD0, hX⟩ := hv
  have hx := B.exec
  have hb := B.bytes
  have hr := B.returns
  have hts := atoms_spec (ws := wsL_put) B.pre
  have hown : s.vm.findClass RL = some m.cls := findClass_of_methodNamed B.named
  have hlocks := B.notSynchronized
  subst hsz
  have hD := hD0.self (sz := s.heap.size)
  generalize hAe : va_A (wPW cL cI q0 qw qr qc qn w tb su mx cf nu) s.heap.size = A at hD ⊢ hX
  have hA : ∀ q : Nat, s.heap.size ≤ q → A q := fun q h => by rw [← hAe]; exact Or.inr h
  have hS : va_S A s.heap s.heap [] := va_S.rf
  have hP : va_P (dC, dI) vwCl [(q0, .inr (1, [.ref qw, .ref qr, .long tb, .int (b2i su), .int (b2i mx)])), (qw, .inl (cL, 8192, .inr (.inl w))), (qr, .inr (0, [.ref qc, .ref qn])), (qc, .inl (cI, 8, .inl cf)), (qn, .inl (cL, 8, .inr (.inl nu)))] s.heap := hP
  have hD : va_D A [(q0, .inr (1, [.ref qw, .ref qr, .long tb, .int (b2i su), .int (b2i mx)])), (qw, .inl (cL, 8192, .inr (.inl w))), (qr, .inr (0, [.ref qc, .ref qn])), (qc, .inl (cI, 8, .inl cf)), (qn, .inl (cL, 8, .inr (.inl nu)))] := hD
  have htab : c.exceptionTable.toList = [⟨0, 6, 9, 13⟩] := vx_table (x := yL_put) B (hts kL_put List.mem_cons_self)
  have hl := lv_entry ([.ref q0, .long ad, .long v]) (n := 6) (Nat.le_of_ble_eq_true rfl)
  rw [lg_entry_eq]
  generalize (lg_sl ([.ref q0, .long ad, .long v]) ++ List.replicate (6 - (lg_sl ([.ref q0, .long ad, .long v])).length) Slot.unset).toArray = ls at hl ⊢
  have hl : lv_has ls 6 [(0, .ref q0), (1, .long ad), (3, .long v)] := hl
  refine lv_aload_n hx hb dL_put_0 rfl (lv_at hl 0 rfl) ?_
  refine lv_lload_n hx hb dL_put_1 rfl (lv_at hl 1 rfl) ?_
  refine lv_lload_n hx hb dL_put_2 rfl (lv_at hl 2 rfl) ?_
  refine vx_callv (vx_runV (As := [.long ad, .long v]) (rest := []) ⟨hx, hb, hml, hown, hts⟩ (thX1_put l hl0 q0 s.heap.size sa ad v hi) (cwV 2 hts (gAll (mc1 (wa 180 (by decide +kernel) rfl) (mc1 (wa 181 (by decide +kernel) rfl) (mc1 (wa 182 (by decide +kernel) rfl) (mc1 (wa 15 (by decide +kernel) rfl) mc0)))) (wa 183 (by decide +kernel) rfl) (by decide +kernel)) rfl rfl rfl (by decide +kernel) ⟨Nat.le_of_ble_eq_true rfl, Nat.le_of_ble_eq_true rfl⟩) (xr_pre (ci := 1) (q0 := 0) hK hP rfl rfl hX hS hA) rfl rfl hl.1 rfl (lv_room (Nat.le_of_ble_eq_true rfl)) dL_put_3 ⟨Nat.le_of_ble_eq_true rfl, Nat.le_of_ble_eq_true rfl⟩) hS (fun _ _ h => h.elim) (fun q h => hA q h) (fun _ _ h => h.elim) (fun E9 ce q9 u t H1 locs ht hvm hpx hE hz1 hk1 hS hce hcv hcl => ?_) (fun u t H1 locs ht hvm hpx => hpx.elim)
  have hP : va_P (dC, dI) vwCl [(q0, .inr (1, [.ref qw, .ref qr, .long tb, .int (b2i su), .int (b2i mx)])), (qw, .inl (cL, 8192, .inr (.inl w))), (qr, .inr (0, [.ref qc, .ref qn])), (qc, .inl (cI, 8, .inl cf)), (qn, .inl (cL, 8, .inr (.inl nu)))] H1 := hP.kept (fun k q hk => hk1 q.1 (hP k q hk).lt (fun h => h))
  refine vx_catch (name := xE1) hown [] ⟨0, 6, 9, 13⟩ [] htab (fun z hz => nomatch hz) (by decide) (by decide) (hts (.classLink RL 13 xE1) (wa 99 (by decide +kernel) rfl)) (by have h9 := hX.2.1.2.2.2; rw [show E9 = xE1 from hE]; exact va_Nw.use rfl h9) hce hcv hcl ?_
  refine lv_astore (lv' := [(5, .ref q9), (0, .ref q0), (1, .long ad), (3, .long v)]) hx hb dL_put_9 hl (by decide) rfl (fun ls hl => ?_)
  refine lv_iconst (v := 1) hx hb dL_put_11 (by decide) ?_
  have hP9 : va_P (dC, dI) vwCl (wPW cL cI q0 qw qr qc qn w tb su mx cf nu) H1 := hP
  have hD9 : va_D A (wPW cL cI q0 qw qr qc qn w tb su mx cf nu) := hD
  exact W.iret (v := 1) hx hb hr (fun t ht hW => ⟨⟨1, (), rfl, rfl, (by rw [ht]; exact hP9), va_K.moved hW.alike hK, hD9⟩, hS.F ht⟩) hS.2.2 dL_put_12
set_option maxHeartbeats 400000 in
set_option maxRecDepth 100000 in
theorem mtL_setTable (l : Launch) (dC : Nat → ClassId) (dI : Nat → Nat → Nat) (cL : ClassId) (cI : ClassId) (q0 : Nat) (qw : Nat) (qr : Nat) (qc : Nat) (qn : Nat) (w : Nat → Int64) (tb : Int64) (su : Bool) (mx : Bool) (cf : Nat → Int32) (nu : Nat → Int64) (hz : Nat) (tv : Int64) (hi : k_sortOf tv = 0 ∨ k_sortOf tv = 8 ∨ k_sortOf tv = 9) : Met l yL_setTable wsL_setTable ({ frames := 2, cells := 0, slots := 0, locals := 44 }) (va_Pc [.ref q0, .long tv] (fun U => U.heap.size = hz ∧ va_P (dC, dI) vwCl (wPW cL cI q0 qw qr qc qn w tb su mx cf nu) U.heap ∧ va_K (dC, dI) vwCl [(cL, .long), (cI, .int)] U ∧ va_D (fun _ => True) (wPW cL cI q0 qw qr qc qn w tb su mx cf nu))) (va_Qi (fun r (_ : Unit) => r = 0) (fun _ t => va_P (dC, dI) vwCl (wPW cL cI q0 qw qr qc qn w tv su mx cf nu) t.heap ∧ va_K (dC, dI) vwCl [(cL, .long), (cI, .int)] t ∧ va_D (va_A (wPW cL cI q0 qw qr qc qn w tb su mx cf nu) hz) (wPW cL cI q0 qw qr qc qn w tv su mx cf nu)) (va_A (wPW cL cI q0 qw qr qc qn w tb su mx cf nu) hz)) 0 0 (va_A (wPW cL cI q0 qw qr qc qn w tb su mx cf nu) hz) := by
  refine va_MetW (cc := cL_setTable) (maxL := 4) (ret := (some .int)) (hh := [(0, 5, 8, 23)]) (by decide) rfl ?_
  intro p e s m args below meth c s₁ B hml hv
  obtain ⟨rfl, hsz, hP, hK, hD0⟩ := hv
  have hx := B.exec
  have hb := B.bytes
  have hr := B.returns
  have hts := atoms_spec (ws := wsL_setTable) B.pre
  have hown : s.vm.findClass RL = some m.cls := findClass_of_methodNamed B.named
  have hlocks := B.notSynchronized
  subst hsz
  have hD := hD0.self (sz := s.heap.size)
  generalize hAe : va_A (wPW cL cI q0 qw qr qc qn w tb su mx cf nu) s.heap.size = A at hD ⊢
  have hA : ∀ q : Nat, s.heap.size ≤ q → A q := fun q h => by rw [← hAe]; exact Or.inr h
  have hS : va_S A s.heap s.heap [] := va_S.rf
  have hP : va_P (dC, dI) vwCl [(q0, .inr (1, [.ref qw, .ref qr, .long tb, .int (b2i su), .int (b2i mx)])), (qw, .inl (cL, 8192, .inr (.inl w))), (qr, .inr (0, [.ref qc, .ref qn])), (qc, .inl (cI, 8, .inl cf)), (qn, .inl (cL, 8, .inr (.inl nu)))] s.heap := hP
  have hD : va_D A [(q0, .inr (1, [.ref qw, .ref qr, .long tb, .int (b2i su), .int (b2i mx)])), (qw, .inl (cL, 8192, .inr (.inl w))), (qr, .inr (0, [.ref qc, .ref qn])), (qc, .inl (cI, 8, .inl cf)), (qn, .inl (cL, 8, .inr (.inl nu)))] := hD
  have hl := lv_entry ([.ref q0, .long tv]) (n := 4) (Nat.le_of_ble_eq_true rfl)
  rw [lg_entry_eq]
  generalize (lg_sl ([.ref q0, .long tv]) ++ List.replicate (4 - (lg_sl ([.ref q0, .long tv])).length) Slot.unset).toArray = ls at hl ⊢
  have hl : lv_has ls 4 [(0, .ref q0), (1, .long tv)] := hl
  refine lv_aload_n hx hb dL_setTable_0 rfl (lv_at hl 0 rfl) ?_
  refine lv_lload_n hx hb dL_setTable_1 rfl (lv_at hl 1 rfl) ?_
  have hPc := hP.sub (ws' := (wPW cL cI q0 qw qr qc qn w tb su mx cf nu)) [0, 1, 2, 3, 4] rfl
  have hDc := hD.sub (ws' := (wPW cL cI q0 qw qr qc qn w tb su mx cf nu)) [0, 1, 2, 3, 4] (by decide) rfl
  have hFc := va_free (wc := (wPW cL cI q0 qw qr qc qn w tb su mx cf nu)) hD hS hA [0, 1, 2, 3, 4] rfl
  refine va_callv (va_runV (As := [.long tv]) (rest := []) ⟨hx, hb, hml, hown, hts⟩ (mtX1_setTable l dC dI cL cI q0 qw qr qc qn w tb su mx cf nu s.heap.size tv (hi)) (cwV 1 hts (gAll (mc1 (wa 188 (by decide +kernel) rfl) (mc1 (wa 189 (by decide +kernel) rfl) (mc1 (wa 190 (by decide +kernel) rfl) (mc1 (wa 15 (by decide +kernel) rfl) mc0)))) (wa 191 (by decide +kernel) rfl) (by decide +kernel)) rfl rfl rfl (by decide +kernel) ⟨Nat.le_of_ble_eq_true rfl, Nat.le_of_ble_eq_true rfl⟩) (mu_pre (ci := 1) (q0 := 0) hK hPc hDc rfl rfl) rfl rfl hl.1 rfl (lv_room (Nat.le_of_ble_eq_true rfl)) dL_setTable_2 ⟨Nat.le_of_ble_eq_true rfl, Nat.le_of_ble_eq_true rfl⟩) hS (fun q _ h => hFc q h) hFc (fun u t H1 locs ht hvm hpo hB hz1 hk1 hS => ?_)
  obtain ⟨hP1, hK1, hD1⟩ := hB
  rw [ht] at hP1
  obtain ⟨hP, hD⟩ := va_join (wr := []) (w1 := (wPW cL cI q0 qw qr qc qn w (tv) su mx cf nu)) hP hD [0, 1, 2, 3, 4] [] rfl rfl (by decide) (by decide) hk1 hFc hP1 hD1
  generalize H1 = H at hP hS ⊢
  have hP : va_P (dC, dI) vwCl [(q0, .inr (1, [.ref qw, .ref qr, .long (tv), .int (b2i su), .int (b2i mx)])), (qw, .inl (cL, 8192, .inr (.inl w))), (qr, .inr (0, [.ref qc, .ref qn])), (qc, .inl (cI, 8, .inl cf)), (qn, .inl (cL, 8, .inr (.inl nu)))] H := hP
  have hD : va_D A [(q0, .inr (1, [.ref qw, .ref qr, .long (tv), .int (b2i su), .int (b2i mx)])), (qw, .inl (cL, 8192, .inr (.inl w))), (qr, .inr (0, [.ref qc, .ref qn])), (qc, .inl (cI, 8, .inl cf)), (qn, .inl (cL, 8, .inr (.inl nu)))] := hD
  refine lv_goto (tgt := 11) hx hb dL_setTable_5 (by decide) ?_
  refine lv_iconst (v := 0) hx hb dL_setTable_11 (by decide) ?_
  have w9_0 : tv = (tv) := (by first | rfl | (simp only [b2i, decide_true, decide_false, Bool.not_true, Bool.not_false, Bool.and_true, Bool.and_false, Bool.true_and, Bool.false_and, Bool.or_true, Bool.or_false, Bool.true_or, Bool.false_or, reduceIte, or_true, true_or, or_false, false_or, and_true, true_and, and_false, false_and, not_true_eq_false, not_false_eq_true, Bool.false_eq_true, eq_self]; done) | (simp []; done))
  have hP9 : va_P (dC, dI) vwCl (wPW cL cI q0 qw qr qc qn w tv su mx cf nu) H := (by rw [w9_0]; exact hP)
  have hD9 : va_D A (wPW cL cI q0 qw qr qc qn w tv su mx cf nu) := (by rw [w9_0]; exact hD)
  exact W.iret (v := 0) hx hb hr (fun t ht hW => ⟨⟨0, (), rfl, rfl, (by rw [ht]; exact hP9), va_K.moved hW.alike hK, hD9⟩, hS.F ht⟩) hS.2.2 dL_setTable_12
set_option maxHeartbeats 400000 in
set_option maxRecDepth 100000 in
theorem mtL_setTable_no (l : Launch) (hl0 : l.stackTraces = false) (dC : Nat → ClassId) (dI : Nat → Nat → Nat) (cL : ClassId) (cI : ClassId) (q0 : Nat) (qw : Nat) (qr : Nat) (qc : Nat) (qn : Nat) (w : Nat → Int64) (tb : Int64) (su : Bool) (mx : Bool) (cf : Nat → Int32) (nu : Nat → Int64) (hz sa : Nat) (tv : Int64) (hi : ¬ (k_sortOf tv = 0 ∨ k_sortOf tv = 8 ∨ k_sortOf tv = 9)) : Met l yL_setTable wsL_setTable ({ frames := 7, cells := 1, slots := 6, locals := 114 }) (va_Pc [.ref q0, .long tv] (fun U => U.heap.size = hz ∧ va_P (dC, dI) vwCl (wPW cL cI q0 qw qr qc qn w tb su mx cf nu) U.heap ∧ va_K (dC, dI) vwCl [(cL, .long), (cI, .int)] U ∧ va_D (fun _ => True) (wPW cL cI q0 qw qr qc qn w tb su mx cf nu) ∧ xR RX1 47 "the sort is none of 0, 8, 9" sa xE2 (va_A (wPW cL cI q0 qw qr qc qn w tb su mx cf nu) hz) U)) (va_Qi (fun r (_ : Unit) => r = 1) (fun _ t => va_P (dC, dI) vwCl (wPW cL cI q0 qw qr qc qn w tb su mx cf nu) t.heap ∧ va_K (dC, dI) vwCl [(cL, .long), (cI, .int)] t ∧ va_D (va_A (wPW cL cI q0 qw qr qc qn w tb su mx cf nu) hz) (wPW cL cI q0 qw qr qc qn w tb su mx cf nu)) (va_A (wPW cL cI q0 qw qr qc qn w tb su mx cf nu) hz)) 1 6 (va_A (wPW cL cI q0 qw qr qc qn w tb su mx cf nu) hz) := by
  refine va_MetW (cc := cL_setTable) (maxL := 4) (ret := (some .int)) (hh := [(0, 5, 8, 23)]) (by decide) rfl ?_
  intro p e s m args below meth c s₁ B hml hv
  obtain ⟨rfl, hsz, hP, hK, hD0, hX⟩ := hv
  have hx := B.exec
  have hb := B.bytes
  have hr := B.returns
  have hts := atoms_spec (ws := wsL_setTable) B.pre
  have hown : s.vm.findClass RL = some m.cls := findClass_of_methodNamed B.named
  have hlocks := B.notSynchronized
  subst hsz
  have hD := hD0.self (sz := s.heap.size)
  generalize hAe : va_A (wPW cL cI q0 qw qr qc qn w tb su mx cf nu) s.heap.size = A at hD ⊢ hX
  have hA : ∀ q : Nat, s.heap.size ≤ q → A q := fun q h => by rw [← hAe]; exact Or.inr h
  have hS : va_S A s.heap s.heap [] := va_S.rf
  have hP : va_P (dC, dI) vwCl [(q0, .inr (1, [.ref qw, .ref qr, .long tb, .int (b2i su), .int (b2i mx)])), (qw, .inl (cL, 8192, .inr (.inl w))), (qr, .inr (0, [.ref qc, .ref qn])), (qc, .inl (cI, 8, .inl cf)), (qn, .inl (cL, 8, .inr (.inl nu)))] s.heap := hP
  have hD : va_D A [(q0, .inr (1, [.ref qw, .ref qr, .long tb, .int (b2i su), .int (b2i mx)])), (qw, .inl (cL, 8192, .inr (.inl w))), (qr, .inr (0, [.ref qc, .ref qn])), (qc, .inl (cI, 8, .inl cf)), (qn, .inl (cL, 8, .inr (.inl nu)))] := hD
  have htab : c.exceptionTable.toList = [⟨0, 5, 8, 23⟩] := vx_table (x := yL_setTable) B (hts kL_setTable List.mem_cons_self)
  have hl := lv_entry ([.ref q0, .long tv]) (n := 4) (Nat.le_of_ble_eq_true rfl)
  rw [lg_entry_eq]
  generalize (lg_sl ([.ref q0, .long tv]) ++ List.replicate (4 - (lg_sl ([.ref q0, .long tv])).length) Slot.unset).toArray = ls at hl ⊢
  have hl : lv_has ls 4 [(0, .ref q0), (1, .long tv)] := hl
  refine lv_aload_n hx hb dL_setTable_0 rfl (lv_at hl 0 rfl) ?_
  refine lv_lload_n hx hb dL_setTable_1 rfl (lv_at hl 1 rfl) ?_
  refine vx_callv (vx_runV (As := [.long tv]) (rest := []) ⟨hx, hb, hml, hown, hts⟩ (thX1_setTable l hl0 q0 s.heap.size sa tv hi) (cwV 1 hts (gAll (mc1 (wa 188 (by decide +kernel) rfl) (mc1 (wa 189 (by decide +kernel) rfl) (mc1 (wa 190 (by decide +kernel) rfl) (mc1 (wa 15 (by decide +kernel) rfl) mc0)))) (wa 191 (by decide +kernel) rfl) (by decide +kernel)) rfl rfl rfl (by decide +kernel) ⟨Nat.le_of_ble_eq_true rfl, Nat.le_of_ble_eq_true rfl⟩) (xr_pre (ci := 1) (q0 := 0) hK hP rfl rfl hX hS hA) rfl rfl hl.1 rfl (lv_room (Nat.le_of_ble_eq_true rfl)) dL_setTable_2 ⟨Nat.le_of_ble_eq_true rfl, Nat.le_of_ble_eq_true rfl⟩) hS (fun _ _ h => h.elim) (fun q h => hA q h) (fun _ _ h => h.elim) (fun E9 ce q9 u t H1 locs ht hvm hpx hE hz1 hk1 hS hce hcv hcl => ?_) (fun u t H1 locs ht hvm hpx => hpx.elim)
  have hP : va_P (dC, dI) vwCl [(q0, .inr (1, [.ref qw, .ref qr, .long tb, .int (b2i su), .int (b2i mx)])), (qw, .inl (cL, 8192, .inr (.inl w))), (qr, .inr (0, [.ref qc, .ref qn])), (qc, .inl (cI, 8, .inl cf)), (qn, .inl (cL, 8, .inr (.inl nu)))] H1 := hP.kept (fun k q hk => hk1 q.1 (hP k q hk).lt (fun h => h))
  refine vx_catch (name := xE2) hown [] ⟨0, 5, 8, 23⟩ [] htab (fun z hz => nomatch hz) (by decide) (by decide) (hts (.classLink RL 23 xE2) (wa 187 (by decide +kernel) rfl)) (by have h9 := hX.2.1.2.2.2; rw [show E9 = xE2 from hE]; exact va_Nw.use rfl h9) hce hcv hcl ?_
  refine lv_astore_n (lv' := [(3, .ref q9), (0, .ref q0), (1, .long tv)]) hx hb dL_setTable_8 rfl hl (by decide) rfl (fun ls hl => ?_)
  refine lv_iconst (v := 1) hx hb dL_setTable_9 (by decide) ?_
  have hP9 : va_P (dC, dI) vwCl (wPW cL cI q0 qw qr qc qn w tb su mx cf nu) H1 := hP
  have hD9 : va_D A (wPW cL cI q0 qw qr qc qn w tb su mx cf nu) := hD
  exact W.iret (v := 1) hx hb hr (fun t ht hW => ⟨⟨1, (), rfl, rfl, (by rw [ht]; exact hP9), va_K.moved hW.alike hK, hD9⟩, hS.F ht⟩) hS.2.2 dL_setTable_10
set_option maxHeartbeats 400000 in
set_option maxRecDepth 100000 in
theorem mtL_number (l : Launch) (dC : Nat → ClassId) (dI : Nat → Nat → Nat) (cL : ClassId) (cI : ClassId) (q0 : Nat) (qw : Nat) (qr : Nat) (qc : Nat) (qn : Nat) (w : Nat → Int64) (tb : Int64) (su : Bool) (mx : Bool) (cf : Nat → Int32) (nu : Nat → Int64) (qo : Nat) (ov : Nat → Int64) (hz : Nat) (i : Int32) (hi0 : ¬ i < 0) (hi8 : i < 8) : Met l yL_number wsL_number ({ frames := 2, cells := 0, slots := 0, locals := 42 }) (va_Pc [.ref q0, .int i, .ref qo] (fun U => U.heap.size = hz ∧ va_P (dC, dI) vwCl (wHO cL cI q0 qw qr qc qn w tb su mx cf nu qo ov) U.heap ∧ va_K (dC, dI) vwCl [(cL, .long), (cI, .int)] U ∧ va_D (fun _ => True) (wHO cL cI q0 qw qr qc qn w tb su mx cf nu qo ov))) (va_Qi (fun r (_ : Unit) => r = 0) (fun _ t => va_P (dC, dI) vwCl (wHO cL cI q0 qw qr qc qn w tb su mx cf nu qo (vp_updL ov 0 (nu (Int32.toNatClampNeg i)))) t.heap ∧ va_K (dC, dI) vwCl [(cL, .long), (cI, .int)] t ∧ va_D (va_A (wHO cL cI q0 qw qr qc qn w tb su mx cf nu qo ov) hz) (wHO cL cI q0 qw qr qc qn w tb su mx cf nu qo (vp_updL ov 0 (nu (Int32.toNatClampNeg i))))) (va_A (wHO cL cI q0 qw qr qc qn w tb su mx cf nu qo ov) hz)) 0 0 (va_A (wHO cL cI q0 qw qr qc qn w tb su mx cf nu qo ov) hz) := by
  refine va_MetW (cc := cL_number) (maxL := 4) (ret := (some .int)) (hh := [(0, 8, 11, 13)]) (by decide) rfl ?_
  intro p e s m args below meth c s₁ B hml hv
  obtain ⟨rfl, hsz, hP, hK, hD0⟩ := hv
  have hx := B.exec
  have hb := B.bytes
  have hr := B.returns
  have hts := atoms_spec (ws := wsL_number) B.pre
  have hown : s.vm.findClass RL = some m.cls := findClass_of_methodNamed B.named
  have hlocks := B.notSynchronized
  subst hsz
  have hD := hD0.self (sz := s.heap.size)
  generalize hAe : va_A (wHO cL cI q0 qw qr qc qn w tb su mx cf nu qo ov) s.heap.size = A at hD ⊢
  have hA : ∀ q : Nat, s.heap.size ≤ q → A q := fun q h => by rw [← hAe]; exact Or.inr h
  have hS : va_S A s.heap s.heap [] := va_S.rf
  have hP : va_P (dC, dI) vwCl [(qo, .inl (cL, 1, .inr (.inl ov))), (q0, .inr (1, [.ref qw, .ref qr, .long tb, .int (b2i su), .int (b2i mx)])), (qw, .inl (cL, 8192, .inr (.inl w))), (qr, .inr (0, [.ref qc, .ref qn])), (qc, .inl (cI, 8, .inl cf)), (qn, .inl (cL, 8, .inr (.inl nu)))] s.heap := hP
  have hD : va_D A [(qo, .inl (cL, 1, .inr (.inl ov))), (q0, .inr (1, [.ref qw, .ref qr, .long tb, .int (b2i su), .int (b2i mx)])), (qw, .inl (cL, 8192, .inr (.inl w))), (qr, .inr (0, [.ref qc, .ref qn])), (qc, .inl (cI, 8, .inl cf)), (qn, .inl (cL, 8, .inr (.inl nu)))] := hD
  have hl := lv_entry ([.ref q0, .int i, .ref qo]) (n := 4) (Nat.le_of_ble_eq_true rfl)
  rw [lg_entry_eq]
  generalize (lg_sl ([.ref q0, .int i, .ref qo]) ++ List.replicate (4 - (lg_sl ([.ref q0, .int i, .ref qo])).length) Slot.unset).toArray = ls at hl ⊢
  have hl : lv_has ls 4 [(0, .ref q0), (1, .int i), (2, .ref qo)] := hl
  refine lv_aload_n hx hb dL_number_0 rfl (lv_at hl 2 rfl) ?_
  refine lv_iconst (v := 0) hx hb dL_number_1 (by decide) ?_
  refine lv_aload_n hx hb dL_number_2 rfl (lv_at hl 0 rfl) ?_
  refine lv_iload_n hx hb dL_number_3 rfl (lv_at hl 1 rfl) ?_
  refine vp_callSl (W.runV (As := [.int i]) (rest := [.int 0, .ref qo]) ⟨hx, hb, hml, hown, hts⟩ (mtX1_number l dC dI cL cI q0 qw qr qc qn w tb su mx cf nu i (hi0) (hi8)) (cwV 1 hts (gAll (mc1 (wa 214 (by decide +kernel) rfl) (mc1 (wa 215 (by decide +kernel) rfl) (mc1 (wa 216 (by decide +kernel) rfl) (mc1 (wa 15 (by decide +kernel) rfl) mc0)))) (wa 217 (by decide +kernel) rfl) (by decide +kernel)) rfl rfl rfl (by decide +kernel) ⟨Nat.le_of_ble_eq_true rfl, Nat.le_of_ble_eq_true rfl⟩) (rd_pre (ci := 1) (q0 := 0) hK (hP.sub (ws' := (wPW cL cI q0 qw qr qc qn w tb su mx cf nu)) [1, 2, 3, 4, 5] rfl) rfl rfl) rfl rfl hl.1 rfl (lv_room (Nat.le_of_ble_eq_true rfl)) dL_number_4 ⟨Nat.le_of_ble_eq_true rfl, Nat.le_of_ble_eq_true rfl⟩) (fun r_1 er_1 => ?_)
  have er_1 : r_1 = (nu (Int32.toNatClampNeg i)) := er_1
  subst er_1
  refine va_last hx hb hK hP hD hS 0 0 rfl rfl (pk_in 0 1 (by decide)) dL_number_7 (fun H locs hP hD hS => ?_)
  have hP : va_P (dC, dI) vwCl [(qo, .inl (cL, 1, .inr (.inl (vp_updL ov 0 (nu (Int32.toNatClampNeg i)))))), (q0, .inr (1, [.ref qw, .ref qr, .long tb, .int (b2i su), .int (b2i mx)])), (qw, .inl (cL, 8192, .inr (.inl w))), (qr, .inr (0, [.ref qc, .ref qn])), (qc, .inl (cI, 8, .inl cf)), (qn, .inl (cL, 8, .inr (.inl nu)))] H := by have h9 := hP; simp only [List.set] at h9; rw [sb_cl0] at h9; exact h9
  have hD : va_D A [(qo, .inl (cL, 1, .inr (.inl (vp_updL ov 0 (nu (Int32.toNatClampNeg i)))))), (q0, .inr (1, [.ref qw, .ref qr, .long tb, .int (b2i su), .int (b2i mx)])), (qw, .inl (cL, 8192, .inr (.inl w))), (qr, .inr (0, [.ref qc, .ref qn])), (qc, .inl (cI, 8, .inl cf)), (qn, .inl (cL, 8, .inr (.inl nu)))] := by have h9 := hD; simp only [List.set] at h9; rw [sb_cl0] at h9; exact h9
  refine lv_goto (tgt := 14) hx hb dL_number_8 (by decide) ?_
  refine lv_iconst (v := 0) hx hb dL_number_14 (by decide) ?_
  have hP9 : va_P (dC, dI) vwCl (wHO cL cI q0 qw qr qc qn w tb su mx cf nu qo (vp_updL ov 0 (nu (Int32.toNatClampNeg i)))) H := hP
  have hD9 : va_D A (wHO cL cI q0 qw qr qc qn w tb su mx cf nu qo (vp_updL ov 0 (nu (Int32.toNatClampNeg i)))) := hD
  exact W.iret (v := 0) hx hb hr (fun t ht hW => ⟨⟨0, (), rfl, rfl, (by rw [ht]; exact hP9), va_K.moved hW.alike hK, hD9⟩, hS.F ht⟩) hS.2.2 dL_number_15
set_option maxHeartbeats 400000 in
set_option maxRecDepth 100000 in
theorem mtL_number_no (l : Launch) (hl0 : l.stackTraces = false) (dC : Nat → ClassId) (dI : Nat → Nat → Nat) (cL : ClassId) (cI : ClassId) (q0 : Nat) (qw : Nat) (qr : Nat) (qc : Nat) (qn : Nat) (w : Nat → Int64) (tb : Int64) (su : Bool) (mx : Bool) (cf : Nat → Int32) (nu : Nat → Int64) (qo : Nat) (ov : Nat → Int64) (hz sa : Nat) (i : Int32) (hi : ¬ (¬ i < 0 ∧ i < 8)) : Met l yL_number wsL_number ({ frames := 8, cells := 1, slots := 6, locals := 133 }) (va_Pc [.ref q0, .int i, .ref qo] (fun U => U.heap.size = hz ∧ va_P (dC, dI) vwCl (wHO cL cI q0 qw qr qc qn w tb su mx cf nu qo ov) U.heap ∧ va_K (dC, dI) vwCl [(cL, .long), (cI, .int)] U ∧ va_D (fun _ => True) (wHO cL cI q0 qw qr qc qn w tb su mx cf nu qo ov) ∧ xR RX0 29 "no such region" sa xE1 (va_A (wHO cL cI q0 qw qr qc qn w tb su mx cf nu qo ov) hz) U)) (va_Qi (fun r (_ : Unit) => r = 1) (fun _ t => va_P (dC, dI) vwCl (wHO cL cI q0 qw qr qc qn w tb su mx cf nu qo ov) t.heap ∧ va_K (dC, dI) vwCl [(cL, .long), (cI, .int)] t ∧ va_D (va_A (wHO cL cI q0 qw qr qc qn w tb su mx cf nu qo ov) hz) (wHO cL cI q0 qw qr qc qn w tb su mx cf nu qo ov)) (va_A (wHO cL cI q0 qw qr qc qn w tb su mx cf nu qo ov) hz)) 1 6 (va_A (wHO cL cI q0 qw qr qc qn w tb su mx cf nu qo ov) hz) := by
  refine va_MetW (cc := cL_number) (maxL := 4) (ret := (some .int)) (hh := [(0, 8, 11, 13)]) (by decide) rfl ?_
  intro p e s m args below meth c s₁ B hml hv
  obtain ⟨rfl, hsz, hP, hK, hD0, hX⟩ := hv
  have hx := B.exec
  have hb := B.bytes
  have hr := B.returns
  have hts := atoms_spec (ws := wsL_number) B.pre
  have hown : s.vm.findClass RL = some m.cls := findClass_of_methodNamed B.named
  have hlocks := B.notSynchronized
  subst hsz
  have hD := hD0.self (sz := s.heap.size)
  generalize hAe : va_A (wHO cL cI q0 qw qr qc qn w tb su mx cf nu qo ov) s.heap.size = A at hD ⊢ hX
  have hA : ∀ q : Nat, s.heap.size ≤ q → A q := fun q h => by rw [← hAe]; exact Or.inr h
  have hS : va_S A s.heap s.heap [] := va_S.rf
  have hP : va_P (dC, dI) vwCl [(qo, .inl (cL, 1, .inr (.inl ov))), (q0, .inr (1, [.ref qw, .ref qr, .long tb, .int (b2i su), .int (b2i mx)])), (qw, .inl (cL, 8192, .inr (.inl w))), (qr, .inr (0, [.ref qc, .ref qn])), (qc, .inl (cI, 8, .inl cf)), (qn, .inl (cL, 8, .inr (.inl nu)))] s.heap := hP
  have hD : va_D A [(qo, .inl (cL, 1, .inr (.inl ov))), (q0, .inr (1, [.ref qw, .ref qr, .long tb, .int (b2i su), .int (b2i mx)])), (qw, .inl (cL, 8192, .inr (.inl w))), (qr, .inr (0, [.ref qc, .ref qn])), (qc, .inl (cI, 8, .inl cf)), (qn, .inl (cL, 8, .inr (.inl nu)))] := hD
  have htab : c.exceptionTable.toList = [⟨0, 8, 11, 13⟩] := vx_table (x := yL_number) B (hts kL_number List.mem_cons_self)
  have hl := lv_entry ([.ref q0, .int i, .ref qo]) (n := 4) (Nat.le_of_ble_eq_true rfl)
  rw [lg_entry_eq]
  generalize (lg_sl ([.ref q0, .int i, .ref qo]) ++ List.replicate (4 - (lg_sl ([.ref q0, .int i, .ref qo])).length) Slot.unset).toArray = ls at hl ⊢
  have hl : lv_has ls 4 [(0, .ref q0), (1, .int i), (2, .ref qo)] := hl
  refine lv_aload_n hx hb dL_number_0 rfl (lv_at hl 2 rfl) ?_
  refine lv_iconst (v := 0) hx hb dL_number_1 (by decide) ?_
  refine lv_aload_n hx hb dL_number_2 rfl (lv_at hl 0 rfl) ?_
  refine lv_iload_n hx hb dL_number_3 rfl (lv_at hl 1 rfl) ?_
  refine vx_calll (vx_runV (As := [.int i]) (rest := [.int 0, .ref qo]) ⟨hx, hb, hml, hown, hts⟩ (thX1_number l hl0 dC dI cL cI q0 qw qr qc qn w tb su mx cf nu s.heap.size sa i hi) (cwV 1 hts (gAll (mc1 (wa 214 (by decide +kernel) rfl) (mc1 (wa 215 (by decide +kernel) rfl) (mc1 (wa 216 (by decide +kernel) rfl) (mc1 (wa 15 (by decide +kernel) rfl) mc0)))) (wa 217 (by decide +kernel) rfl) (by decide +kernel)) rfl rfl rfl (by decide +kernel) ⟨Nat.le_of_ble_eq_true rfl, Nat.le_of_ble_eq_true rfl⟩) (xr_preP (ci := 1) (q0 := 0) hK (hP.sub (ws' := (wPW cL cI q0 qw qr qc qn w tb su mx cf nu)) [1, 2, 3, 4, 5] rfl) rfl rfl hX hS hA) rfl rfl hl.1 rfl (lv_room (Nat.le_of_ble_eq_true rfl)) dL_number_4 ⟨Nat.le_of_ble_eq_true rfl, Nat.le_of_ble_eq_true rfl⟩) hS (fun _ _ h => h.elim) (fun q h => hA q h) (fun _ _ h => h.elim) (fun E9 ce q9 u t H1 locs ht hvm hpx hE hz1 hk1 hS hce hcv hcl => ?_) (fun r u t H1 locs ht hvm hpx => hpx.elim)
  have hP : va_P (dC, dI) vwCl [(qo, .inl (cL, 1, .inr (.inl ov))), (q0, .inr (1, [.ref qw, .ref qr, .long tb, .int (b2i su), .int (b2i mx)])), (qw, .inl (cL, 8192, .inr (.inl w))), (qr, .inr (0, [.ref qc, .ref qn])), (qc, .inl (cI, 8, .inl cf)), (qn, .inl (cL, 8, .inr (.inl nu)))] H1 := hP.kept (fun k q hk => hk1 q.1 (hP k q hk).lt (fun h => h))
  refine vx_catch (name := xE1) hown [] ⟨0, 8, 11, 13⟩ [] htab (fun z hz => nomatch hz) (by decide) (by decide) (hts (.classLink RL 13 xE1) (wa 99 (by decide +kernel) rfl)) (by have h9 := hX.2.1.2.2.2; rw [show E9 = xE1 from hE]; exact va_Nw.use rfl h9) hce hcv hcl ?_
  refine lv_astore_n (lv' := [(3, .ref q9), (0, .ref q0), (1, .int i), (2, .ref qo)]) hx hb dL_number_11 rfl hl (by decide) rfl (fun ls hl => ?_)
  refine lv_iconst (v := 1) hx hb dL_number_12 (by decide) ?_
  have hP9 : va_P (dC, dI) vwCl (wHO cL cI q0 qw qr qc qn w tb su mx cf nu qo ov) H1 := hP
  have hD9 : va_D A (wHO cL cI q0 qw qr qc qn w tb su mx cf nu qo ov) := hD
  exact W.iret (v := 1) hx hb hr (fun t ht hW => ⟨⟨1, (), rfl, rfl, (by rw [ht]; exact hP9), va_K.moved hW.alike hK, hD9⟩, hS.F ht⟩) hS.2.2 dL_number_13
set_option maxHeartbeats 400000 in
set_option maxRecDepth 100000 in
theorem mtL_setNumber (l : Launch) (dC : Nat → ClassId) (dI : Nat → Nat → Nat) (cL : ClassId) (cI : ClassId) (q0 : Nat) (qw : Nat) (qr : Nat) (qc : Nat) (qn : Nat) (w : Nat → Int64) (tb : Int64) (su : Bool) (mx : Bool) (cf : Nat → Int32) (nu : Nat → Int64) (hz : Nat) (i : Int32) (v : Int64) (hi0 : ¬ i < 0) (hi8 : i < 8) : Met l yL_setNumber wsL_setNumber ({ frames := 4, cells := 0, slots := 0, locals := 87 }) (va_Pc [.ref q0, .int i, .long v] (fun U => U.heap.size = hz ∧ va_P (dC, dI) vwCl (wPW cL cI q0 qw qr qc qn w tb su mx cf nu) U.heap ∧ va_K (dC, dI) vwCl [(cL, .long), (cI, .int)] U ∧ va_D (fun _ => True) (wPW cL cI q0 qw qr qc qn w tb su mx cf nu))) (va_Qi (fun r (_ : Unit) => r = 0) (fun _ t => va_P (dC, dI) vwCl (wPW cL cI q0 qw qr qc qn w tb su mx cf (k_takeNumber cf nu (Int32.toNatClampNeg i) v)) t.heap ∧ va_K (dC, dI) vwCl [(cL, .long), (cI, .int)] t ∧ va_D (va_A (wPW cL cI q0 qw qr qc qn w tb su mx cf nu) hz) (wPW cL cI q0 qw qr qc qn w tb su mx cf (k_takeNumber cf nu (Int32.toNatClampNeg i) v))) (va_A (wPW cL cI q0 qw qr qc qn w tb su mx cf nu) hz)) 0 0 (va_A (wPW cL cI q0 qw qr qc qn w tb su mx cf nu) hz) := by
  refine va_MetW (cc := cL_setNumber) (maxL := 5) (ret := (some .int)) (hh := [(0, 6, 9, 13)]) (by decide) rfl ?_
  intro p e s m args below meth c s₁ B hml hv
  obtain ⟨rfl, hsz, hP, hK, hD0⟩ := hv
  have hx := B.exec
  have hb := B.bytes
  have hr := B.returns
  have hts := atoms_spec (ws := wsL_setNumber) B.pre
  have hown : s.vm.findClass RL = some m.cls := findClass_of_methodNamed B.named
  have hlocks := B.notSynchronized
  subst hsz
  have hD := hD0.self (sz := s.heap.size)
  generalize hAe : va_A (wPW cL cI q0 qw qr qc qn w tb su mx cf nu) s.heap.size = A at hD ⊢
  have hA : ∀ q : Nat, s.heap.size ≤ q → A q := fun q h => by rw [← hAe]; exact Or.inr h
  have hS : va_S A s.heap s.heap [] := va_S.rf
  have hP : va_P (dC, dI) vwCl [(q0, .inr (1, [.ref qw, .ref qr, .long tb, .int (b2i su), .int (b2i mx)])), (qw, .inl (cL, 8192, .inr (.inl w))), (qr, .inr (0, [.ref qc, .ref qn])), (qc, .inl (cI, 8, .inl cf)), (qn, .inl (cL, 8, .inr (.inl nu)))] s.heap := hP
  have hD : va_D A [(q0, .inr (1, [.ref qw, .ref qr, .long tb, .int (b2i su), .int (b2i mx)])), (qw, .inl (cL, 8192, .inr (.inl w))), (qr, .inr (0, [.ref qc, .ref qn])), (qc, .inl (cI, 8, .inl cf)), (qn, .inl (cL, 8, .inr (.inl nu)))] := hD
  have hl := lv_entry ([.ref q0, .int i, .long v]) (n := 5) (Nat.le_of_ble_eq_true rfl)
  rw [lg_entry_eq]
  generalize (lg_sl ([.ref q0, .int i, .long v]) ++ List.replicate (5 - (lg_sl ([.ref q0, .int i, .long v])).length) Slot.unset).toArray = ls at hl ⊢
  have hl : lv_has ls 5 [(0, .ref q0), (1, .int i), (2, .long v)] := hl
  refine lv_aload_n hx hb dL_setNumber_0 rfl (lv_at hl 0 rfl) ?_
  refine lv_iload_n hx hb dL_setNumber_1 rfl (lv_at hl 1 rfl) ?_
  refine lv_lload_n hx hb dL_setNumber_2 rfl (lv_at hl 2 rfl) ?_
  have hPc := hP.sub (ws' := (wPW cL cI q0 qw qr qc qn w tb su mx cf nu)) [0, 1, 2, 3, 4] rfl
  have hDc := hD.sub (ws' := (wPW cL cI q0 qw qr qc qn w tb su mx cf nu)) [0, 1, 2, 3, 4] (by decide) rfl
  have hFc := va_free (wc := (wPW cL cI q0 qw qr qc qn w tb su mx cf nu)) hD hS hA [0, 1, 2, 3, 4] rfl
  refine va_callv (va_runV (As := [.int i, .long v]) (rest := []) ⟨hx, hb, hml, hown, hts⟩ (mtX1_setNumber l dC dI cL cI q0 qw qr qc qn w tb su mx cf nu s.heap.size i v (hi0) (hi8)) (cwV 2 hts (gAll (mc1 (wa 228 (by decide +kernel) rfl) (mc1 (wa 229 (by decide +kernel) rfl) (mc1 (wa 230 (by decide +kernel) rfl) (mc1 (wa 15 (by decide +kernel) rfl) mc0)))) (wa 231 (by decide +kernel) rfl) (by decide +kernel)) rfl rfl rfl (by decide +kernel) ⟨Nat.le_of_ble_eq_true rfl, Nat.le_of_ble_eq_true rfl⟩) (mu_pre (ci := 1) (q0 := 0) hK hPc hDc rfl rfl) rfl rfl hl.1 rfl (lv_room (Nat.le_of_ble_eq_true rfl)) dL_setNumber_3 ⟨Nat.le_of_ble_eq_true rfl, Nat.le_of_ble_eq_true rfl⟩) hS (fun q _ h => hFc q h) hFc (fun u t H1 locs ht hvm hpo hB hz1 hk1 hS => ?_)
  obtain ⟨hP1, hK1, hD1⟩ := hB
  rw [ht] at hP1
  obtain ⟨hP, hD⟩ := va_join (wr := []) (w1 := (wPW cL cI q0 qw qr qc qn w tb su mx cf (k_takeNumber cf nu (Int32.toNatClampNeg i) v))) hP hD [0, 1, 2, 3, 4] [] rfl rfl (by decide) (by decide) hk1 hFc hP1 hD1
  generalize H1 = H at hP hS ⊢
  have hP : va_P (dC, dI) vwCl [(q0, .inr (1, [.ref qw, .ref qr, .long tb, .int (b2i su), .int (b2i mx)])), (qw, .inl (cL, 8192, .inr (.inl w))), (qr, .inr (0, [.ref qc, .ref qn])), (qc, .inl (cI, 8, .inl cf)), (qn, .inl (cL, 8, .inr (.inl (k_takeNumber cf nu (Int32.toNatClampNeg i) v))))] H := hP
  have hD : va_D A [(q0, .inr (1, [.ref qw, .ref qr, .long tb, .int (b2i su), .int (b2i mx)])), (qw, .inl (cL, 8192, .inr (.inl w))), (qr, .inr (0, [.ref qc, .ref qn])), (qc, .inl (cI, 8, .inl cf)), (qn, .inl (cL, 8, .inr (.inl (k_takeNumber cf nu (Int32.toNatClampNeg i) v))))] := hD
  refine lv_goto (tgt := 13) hx hb dL_setNumber_6 (by decide) ?_
  refine lv_iconst (v := 0) hx hb dL_setNumber_13 (by decide) ?_
  have hP9 : va_P (dC, dI) vwCl (wPW cL cI q0 qw qr qc qn w tb su mx cf (k_takeNumber cf nu (Int32.toNatClampNeg i) v)) H := hP
  have hD9 : va_D A (wPW cL cI q0 qw qr qc qn w tb su mx cf (k_takeNumber cf nu (Int32.toNatClampNeg i) v)) := hD
  exact W.iret (v := 0) hx hb hr (fun t ht hW => ⟨⟨0, (), rfl, rfl, (by rw [ht]; exact hP9), va_K.moved hW.alike hK, hD9⟩, hS.F ht⟩) hS.2.2 dL_setNumber_14
set_option maxHeartbeats 400000 in
set_option maxRecDepth 100000 in
theorem mtL_setNumber_no (l : Launch) (hl0 : l.stackTraces = false) (dC : Nat → ClassId) (dI : Nat → Nat → Nat) (cL : ClassId) (cI : ClassId) (q0 : Nat) (qw : Nat) (qr : Nat) (qc : Nat) (qn : Nat) (w : Nat → Int64) (tb : Int64) (su : Bool) (mx : Bool) (cf : Nat → Int32) (nu : Nat → Int64) (hz sa : Nat) (i : Int32) (v : Int64) (hi : ¬ (¬ i < 0 ∧ i < 8)) : Met l yL_setNumber wsL_setNumber ({ frames := 8, cells := 1, slots := 6, locals := 138 }) (va_Pc [.ref q0, .int i, .long v] (fun U => U.heap.size = hz ∧ va_P (dC, dI) vwCl (wPW cL cI q0 qw qr qc qn w tb su mx cf nu) U.heap ∧ va_K (dC, dI) vwCl [(cL, .long), (cI, .int)] U ∧ va_D (fun _ => True) (wPW cL cI q0 qw qr qc qn w tb su mx cf nu) ∧ xR RX0 29 "no such region" sa xE1 (va_A (wPW cL cI q0 qw qr qc qn w tb su mx cf nu) hz) U)) (va_Qi (fun r (_ : Unit) => r = 1) (fun _ t => va_P (dC, dI) vwCl (wPW cL cI q0 qw qr qc qn w tb su mx cf nu) t.heap ∧ va_K (dC, dI) vwCl [(cL, .long), (cI, .int)] t ∧ va_D (va_A (wPW cL cI q0 qw qr qc qn w tb su mx cf nu) hz) (wPW cL cI q0 qw qr qc qn w tb su mx cf nu)) (va_A (wPW cL cI q0 qw qr qc qn w tb su mx cf nu) hz)) 1 6 (va_A (wPW cL cI q0 qw qr qc qn w tb su mx cf nu) hz) := by
  refine va_MetW (cc := cL_setNumber) (maxL := 5) (ret := (some .int)) (hh := [(0, 6, 9, 13)]) (by decide) rfl ?_
  intro p e s m args below meth c s₁ B hml hv
  obtain ⟨rfl, hsz, hP, hK, hD0, hX⟩ := hv
  have hx := B.exec
  have hb := B.bytes
  have hr := B.returns
  have hts := atoms_spec (ws := wsL_setNumber) B.pre
  have hown : s.vm.findClass RL = some m.cls := findClass_of_methodNamed B.named
  have hlocks := B.notSynchronized
  subst hsz
  have hD := hD0.self (sz := s.heap.size)
  generalize hAe : va_A (wPW cL cI q0 qw qr qc qn w tb su mx cf nu) s.heap.size = A at hD ⊢ hX
  have hA : ∀ q : Nat, s.heap.size ≤ q → A q := fun q h => by rw [← hAe]; exact Or.inr h
  have hS : va_S A s.heap s.heap [] := va_S.rf
  have hP : va_P (dC, dI) vwCl [(q0, .inr (1, [.ref qw, .ref qr, .long tb, .int (b2i su), .int (b2i mx)])), (qw, .inl (cL, 8192, .inr (.inl w))), (qr, .inr (0, [.ref qc, .ref qn])), (qc, .inl (cI, 8, .inl cf)), (qn, .inl (cL, 8, .inr (.inl nu)))] s.heap := hP
  have hD : va_D A [(q0, .inr (1, [.ref qw, .ref qr, .long tb, .int (b2i su), .int (b2i mx)])), (qw, .inl (cL, 8192, .inr (.inl w))), (qr, .inr (0, [.ref qc, .ref qn])), (qc, .inl (cI, 8, .inl cf)), (qn, .inl (cL, 8, .inr (.inl nu)))] := hD
  have htab : c.exceptionTable.toList = [⟨0, 6, 9, 13⟩] := vx_table (x := yL_setNumber) B (hts kL_setNumber List.mem_cons_self)
  have hl := lv_entry ([.ref q0, .int i, .long v]) (n := 5) (Nat.le_of_ble_eq_true rfl)
  rw [lg_entry_eq]
  generalize (lg_sl ([.ref q0, .int i, .long v]) ++ List.replicate (5 - (lg_sl ([.ref q0, .int i, .long v])).length) Slot.unset).toArray = ls at hl ⊢
  have hl : lv_has ls 5 [(0, .ref q0), (1, .int i), (2, .long v)] := hl
  refine lv_aload_n hx hb dL_setNumber_0 rfl (lv_at hl 0 rfl) ?_
  refine lv_iload_n hx hb dL_setNumber_1 rfl (lv_at hl 1 rfl) ?_
  refine lv_lload_n hx hb dL_setNumber_2 rfl (lv_at hl 2 rfl) ?_
  refine vx_callv (vx_runV (As := [.int i, .long v]) (rest := []) ⟨hx, hb, hml, hown, hts⟩ (thX1_setNumber l hl0 dC dI cL cI q0 qw qr qc qn w tb su mx cf nu s.heap.size sa i v hi) (cwV 2 hts (gAll (mc1 (wa 228 (by decide +kernel) rfl) (mc1 (wa 229 (by decide +kernel) rfl) (mc1 (wa 230 (by decide +kernel) rfl) (mc1 (wa 15 (by decide +kernel) rfl) mc0)))) (wa 231 (by decide +kernel) rfl) (by decide +kernel)) rfl rfl rfl (by decide +kernel) ⟨Nat.le_of_ble_eq_true rfl, Nat.le_of_ble_eq_true rfl⟩) (xr_preP (ci := 1) (q0 := 0) hK hP rfl rfl hX hS hA) rfl rfl hl.1 rfl (lv_room (Nat.le_of_ble_eq_true rfl)) dL_setNumber_3 ⟨Nat.le_of_ble_eq_true rfl, Nat.le_of_ble_eq_true rfl⟩) hS (fun _ _ h => h.elim) (fun q h => hA q h) (fun _ _ h => h.elim) (fun E9 ce q9 u t H1 locs ht hvm hpx hE hz1 hk1 hS hce hcv hcl => ?_) (fun u t H1 locs ht hvm hpx => hpx.elim)
  have hP : va_P (dC, dI) vwCl [(q0, .inr (1, [.ref qw, .ref qr, .long tb, .int (b2i su), .int (b2i mx)])), (qw, .inl (cL, 8192, .inr (.inl w))), (qr, .inr (0, [.ref qc, .ref qn])), (qc, .inl (cI, 8, .inl cf)), (qn, .inl (cL, 8, .inr (.inl nu)))] H1 := hP.kept (fun k q hk => hk1 q.1 (hP k q hk).lt (fun h => h))
  refine vx_catch (name := xE1) hown [] ⟨0, 6, 9, 13⟩ [] htab (fun z hz => nomatch hz) (by decide) (by decide) (hts (.classLink RL 13 xE1) (wa 99 (by decide +kernel) rfl)) (by have h9 := hX.2.1.2.2.2; rw [show E9 = xE1 from hE]; exact va_Nw.use rfl h9) hce hcv hcl ?_
  refine lv_astore (lv' := [(4, .ref q9), (0, .ref q0), (1, .int i), (2, .long v)]) hx hb dL_setNumber_9 hl (by decide) rfl (fun ls hl => ?_)
  refine lv_iconst (v := 1) hx hb dL_setNumber_11 (by decide) ?_
  have hP9 : va_P (dC, dI) vwCl (wPW cL cI q0 qw qr qc qn w tb su mx cf nu) H1 := hP
  have hD9 : va_D A (wPW cL cI q0 qw qr qc qn w tb su mx cf nu) := hD
  exact W.iret (v := 1) hx hb hr (fun t ht hW => ⟨⟨1, (), rfl, rfl, (by rw [ht]; exact hP9), va_K.moved hW.alike hK, hD9⟩, hS.F ht⟩) hS.2.2 dL_setNumber_12
set_option maxHeartbeats 400000 in
set_option maxRecDepth 100000 in
theorem mtL_find (l : Launch) (dC : Nat → ClassId) (dI : Nat → Nat → Nat) (cL : ClassId) (cI : ClassId) (q0 : Nat) (qw : Nat) (qr : Nat) (qc : Nat) (qn : Nat) (w : Nat → Int64) (tb : Int64) (su : Bool) (mx : Bool) (cf : Nat → Int32) (nu : Nat → Int64) (qo : Nat) (ov : Nat → Int64) (hz : Nat) (ad : Int64) (ac : Int32) (md : Int32) (sz : Int32) (hi : k_isAccess ad ac md sz = true) : Met l yL_find wsL_find ({ frames := 7, cells := 0, slots := 0, locals := 195 }) (va_Pc [.ref q0, .long ad, .int ac, .int md, .int sz, .ref qo] (fun U => U.heap.size = hz ∧ va_P (dC, dI) vwCl (wHO cL cI q0 qw qr qc qn w tb su mx cf nu qo ov) U.heap ∧ va_K (dC, dI) vwCl [(cL, .long), (cI, .int)] U ∧ va_D (fun _ => True) (wHO cL cI q0 qw qr qc qn w tb su mx cf nu qo ov))) (va_Qi (fun r (_ : Unit) => r = 0) (fun _ t => va_P (dC, dI) vwCl (wHO cL cI q0 qw qr qc qn (k_find w tb su mx cf nu ad ac md sz).2 tb su mx cf nu qo (vp_updL ov 0 (k_find w tb su mx cf nu ad ac md sz).1)) t.heap ∧ va_K (dC, dI) vwCl [(cL, .long), (cI, .int)] t ∧ va_D (va_A (wHO cL cI q0 qw qr qc qn w tb su mx cf nu qo ov) hz) (wHO cL cI q0 qw qr qc qn (k_find w tb su mx cf nu ad ac md sz).2 tb su mx cf nu qo (vp_updL ov 0 (k_find w tb su mx cf nu ad ac md sz).1))) (va_A (wHO cL cI q0 qw qr qc qn w tb su mx cf nu qo ov) hz)) 0 0 (va_A (wHO cL cI q0 qw qr qc qn w tb su mx cf nu qo ov) hz) := by
  refine va_MetW (cc := cL_find) (maxL := 8) (ret := (some .int)) (hh := [(0, 14, 17, 23)]) (by decide) rfl ?_
  intro p e s m args below meth c s₁ B hml hv
  obtain ⟨rfl, hsz, hP, hK, hD0⟩ := hv
  have hx := B.exec
  have hb := B.bytes
  have hr := B.returns
  have hts := atoms_spec (ws := wsL_find) B.pre
  have hown : s.vm.findClass RL = some m.cls := findClass_of_methodNamed B.named
  have hlocks := B.notSynchronized
  subst hsz
  have hD := hD0.self (sz := s.heap.size)
  generalize hAe : va_A (wHO cL cI q0 qw qr qc qn w tb su mx cf nu qo ov) s.heap.size = A at hD ⊢
  have hA : ∀ q : Nat, s.heap.size ≤ q → A q := fun q h => by rw [← hAe]; exact Or.inr h
  have hS : va_S A s.heap s.heap [] := va_S.rf
  have hP : va_P (dC, dI) vwCl [(qo, .inl (cL, 1, .inr (.inl ov))), (q0, .inr (1, [.ref qw, .ref qr, .long tb, .int (b2i su), .int (b2i mx)])), (qw, .inl (cL, 8192, .inr (.inl w))), (qr, .inr (0, [.ref qc, .ref qn])), (qc, .inl (cI, 8, .inl cf)), (qn, .inl (cL, 8, .inr (.inl nu)))] s.heap := hP
  have hD : va_D A [(qo, .inl (cL, 1, .inr (.inl ov))), (q0, .inr (1, [.ref qw, .ref qr, .long tb, .int (b2i su), .int (b2i mx)])), (qw, .inl (cL, 8192, .inr (.inl w))), (qr, .inr (0, [.ref qc, .ref qn])), (qc, .inl (cI, 8, .inl cf)), (qn, .inl (cL, 8, .inr (.inl nu)))] := hD
  have hl := lv_entry ([.ref q0, .long ad, .int ac, .int md, .int sz, .ref qo]) (n := 8) (Nat.le_of_ble_eq_true rfl)
  rw [lg_entry_eq]
  generalize (lg_sl ([.ref q0, .long ad, .int ac, .int md, .int sz, .ref qo]) ++ List.replicate (8 - (lg_sl ([.ref q0, .long ad, .int ac, .int md, .int sz, .ref qo])).length) Slot.unset).toArray = ls at hl ⊢
  have hl : lv_has ls 8 [(0, .ref q0), (1, .long ad), (3, .int ac), (4, .int md), (5, .int sz), (6, .ref qo)] := hl
  refine lv_aload hx hb dL_find_0 (lv_at hl 5 rfl) ?_
  refine lv_iconst (v := 0) hx hb dL_find_2 (by decide) ?_
  refine lv_aload_n hx hb dL_find_3 rfl (lv_at hl 0 rfl) ?_
  refine lv_lload_n hx hb dL_find_4 rfl (lv_at hl 1 rfl) ?_
  refine lv_iload_n hx hb dL_find_5 rfl (lv_at hl 2 rfl) ?_
  refine lv_iload hx hb dL_find_6 (lv_at hl 3 rfl) ?_
  refine lv_iload hx hb dL_find_8 (lv_at hl 4 rfl) ?_
  have hPc := hP.sub (ws' := (wPW cL cI q0 qw qr qc qn w tb su mx cf nu)) [1, 2, 3, 4, 5] rfl
  have hDc := hD.sub (ws' := (wPW cL cI q0 qw qr qc qn w tb su mx cf nu)) [1, 2, 3, 4, 5] (by decide) rfl
  have hFc := va_free (wc := (wPW cL cI q0 qw qr qc qn w tb su mx cf nu)) hD hS hA [1, 2, 3, 4, 5] rfl
  refine va_calll (va_runV (As := [.long ad, .int ac, .int md, .int sz]) (rest := [.int 0, .ref qo]) ⟨hx, hb, hml, hown, hts⟩ (mtX1_find l dC dI cL cI q0 qw qr qc qn w tb su mx cf nu s.heap.size ad ac md sz (hi)) (cwV 4 hts (gAll (mc1 (wa 246 (by decide +kernel) rfl) (mc1 (wa 247 (by decide +kernel) rfl) (mc1 (wa 248 (by decide +kernel) rfl) (mc1 (wa 15 (by decide +kernel) rfl) mc0)))) (wa 249 (by decide +kernel) rfl) (by decide +kernel)) rfl rfl rfl (by decide +kernel) ⟨Nat.le_of_ble_eq_true rfl, Nat.le_of_ble_eq_true rfl⟩) (mu_pre (ci := 1) (q0 := 0) hK hPc hDc rfl rfl) rfl rfl hl.1 rfl (lv_room (Nat.le_of_ble_eq_true rfl)) dL_find_10 ⟨Nat.le_of_ble_eq_true rfl, Nat.le_of_ble_eq_true rfl⟩) hS (fun q _ h => hFc q h) hFc (fun r_1 u t H1 locs ht hvm hpo hB hz1 hk1 hS => ?_)
  obtain ⟨hP1, hK1, hD1⟩ := hB
  rw [ht] at hP1
  obtain ⟨hP, hD⟩ := va_join (wr := [(qo, .inl (cL, 1, .inr (.inl ov)))]) (w1 := (wPW cL cI q0 qw qr qc qn (k_find w tb su mx cf nu ad ac md sz).2 tb su mx cf nu)) hP hD [1, 2, 3, 4, 5] [0] rfl rfl (by decide) (by decide) hk1 hFc hP1 hD1
  generalize H1 = H at hP hS ⊢
  have hP : va_P (dC, dI) vwCl [(qo, .inl (cL, 1, .inr (.inl ov))), (q0, .inr (1, [.ref qw, .ref qr, .long tb, .int (b2i su), .int (b2i mx)])), (qw, .inl (cL, 8192, .inr (.inl (k_find w tb su mx cf nu ad ac md sz).2))), (qr, .inr (0, [.ref qc, .ref qn])), (qc, .inl (cI, 8, .inl cf)), (qn, .inl (cL, 8, .inr (.inl nu)))] H := hP
  have hD : va_D A [(qo, .inl (cL, 1, .inr (.inl ov))), (q0, .inr (1, [.ref qw, .ref qr, .long tb, .int (b2i su), .int (b2i mx)])), (qw, .inl (cL, 8192, .inr (.inl (k_find w tb su mx cf nu ad ac md sz).2))), (qr, .inr (0, [.ref qc, .ref qn])), (qc, .inl (cI, 8, .inl cf)), (qn, .inl (cL, 8, .inr (.inl nu)))] := hD
  have er_1 : r_1 = (k_find w tb su mx cf nu ad ac md sz).1 := hpo
  subst er_1
  refine va_last hx hb hK hP hD hS 0 0 rfl rfl (pk_in 0 1 (by decide)) dL_find_13 (fun H locs hP hD hS => ?_)
  have hP : va_P (dC, dI) vwCl [(qo, .inl (cL, 1, .inr (.inl (vp_updL ov 0 (k_find w tb su mx cf nu ad ac md sz).1)))), (q0, .inr (1, [.ref qw, .ref qr, .long tb, .int (b2i su), .int (b2i mx)])), (qw, .inl (cL, 8192, .inr (.inl (k_find w tb su mx cf nu ad ac md sz).2))), (qr, .inr (0, [.ref qc, .ref qn])), (qc, .inl (cI, 8, .inl cf)), (qn, .inl (cL, 8, .inr (.inl nu)))] H := by have h9 := hP; simp only [List.set] at h9; rw [sb_cl0] at h9; exact h9
  have hD : va_D A [(qo, .inl (cL, 1, .inr (.inl (vp_updL ov 0 (k_find w tb su mx cf nu ad ac md sz).1)))), (q0, .inr (1, [.ref qw, .ref qr, .long tb, .int (b2i su), .int (b2i mx)])), (qw, .inl (cL, 8192, .inr (.inl (k_find w tb su mx cf nu ad ac md sz).2))), (qr, .inr (0, [.ref qc, .ref qn])), (qc, .inl (cI, 8, .inl cf)), (qn, .inl (cL, 8, .inr (.inl nu)))] := by have h9 := hD; simp only [List.set] at h9; rw [sb_cl0] at h9; exact h9
  refine lv_goto (tgt := 21) hx hb dL_find_14 (by decide) ?_
  refine lv_iconst (v := 0) hx hb dL_find_21 (by decide) ?_
  have hP9 : va_P (dC, dI) vwCl (wHO cL cI q0 qw qr qc qn (k_find w tb su mx cf nu ad ac md sz).2 tb su mx cf nu qo (vp_updL ov 0 (k_find w tb su mx cf nu ad ac md sz).1)) H := hP
  have hD9 : va_D A (wHO cL cI q0 qw qr qc qn (k_find w tb su mx cf nu ad ac md sz).2 tb su mx cf nu qo (vp_updL ov 0 (k_find w tb su mx cf nu ad ac md sz).1)) := hD
  exact W.iret (v := 0) hx hb hr (fun t ht hW => ⟨⟨0, (), rfl, rfl, (by rw [ht]; exact hP9), va_K.moved hW.alike hK, hD9⟩, hS.F ht⟩) hS.2.2 dL_find_22
set_option maxHeartbeats 400000 in
set_option maxRecDepth 100000 in
theorem mtL_find_no (l : Launch) (hl0 : l.stackTraces = false) (dC : Nat → ClassId) (dI : Nat → Nat → Nat) (cL : ClassId) (cI : ClassId) (q0 : Nat) (qw : Nat) (qr : Nat) (qc : Nat) (qn : Nat) (w : Nat → Int64) (tb : Int64) (su : Bool) (mx : Bool) (cf : Nat → Int32) (nu : Nat → Int64) (qo : Nat) (ov : Nat → Int64) (hz sa : Nat) (ad : Int64) (ac : Int32) (md : Int32) (sz : Int32) (hi : k_isAccess ad ac md sz = false) : Met l yL_find wsL_find ({ frames := 7, cells := 1, slots := 6, locals := 195 }) (va_Pc [.ref q0, .long ad, .int ac, .int md, .int sz, .ref qo] (fun U => U.heap.size = hz ∧ va_P (dC, dI) vwCl (wHO cL cI q0 qw qr qc qn w tb su mx cf nu qo ov) U.heap ∧ va_K (dC, dI) vwCl [(cL, .long), (cI, .int)] U ∧ va_D (fun _ => True) (wHO cL cI q0 qw qr qc qn w tb su mx cf nu qo ov) ∧ xR RX1 70 "no such access" sa xE2 (va_A (wHO cL cI q0 qw qr qc qn w tb su mx cf nu qo ov) hz) U)) (va_Qi (fun r (_ : Unit) => r = 1) (fun _ t => va_P (dC, dI) vwCl (wHO cL cI q0 qw qr qc qn w tb su mx cf nu qo ov) t.heap ∧ va_K (dC, dI) vwCl [(cL, .long), (cI, .int)] t ∧ va_D (va_A (wHO cL cI q0 qw qr qc qn w tb su mx cf nu qo ov) hz) (wHO cL cI q0 qw qr qc qn w tb su mx cf nu qo ov)) (va_A (wHO cL cI q0 qw qr qc qn w tb su mx cf nu qo ov) hz)) 1 6 (va_A (wHO cL cI q0 qw qr qc qn w tb su mx cf nu qo ov) hz) := by
  refine va_MetW (cc := cL_find) (maxL := 8) (ret := (some .int)) (hh := [(0, 14, 17, 23)]) (by decide) rfl ?_
  intro p e s m args below meth c s₁ B hml hv
  obtain ⟨rfl, hsz, hP, hK, hD0, hX⟩ := hv
  have hx := B.exec
  have hb := B.bytes
  have hr := B.returns
  have hts := atoms_spec (ws := wsL_find) B.pre
  have hown : s.vm.findClass RL = some m.cls := findClass_of_methodNamed B.named
  have hlocks := B.notSynchronized
  subst hsz
  have hD := hD0.self (sz := s.heap.size)
  generalize hAe : va_A (wHO cL cI q0 qw qr qc qn w tb su mx cf nu qo ov) s.heap.size = A at hD ⊢ hX
  have hA : ∀ q : Nat, s.heap.size ≤ q → A q := fun q h => by rw [← hAe]; exact Or.inr h
  have hS : va_S A s.heap s.heap [] := va_S.rf
  have hP : va_P (dC, dI) vwCl [(qo, .inl (cL, 1, .inr (.inl ov))), (q0, .inr (1, [.ref qw, .ref qr, .long tb, .int (b2i su), .int (b2i mx)])), (qw, .inl (cL, 8192, .inr (.inl w))), (qr, .inr (0, [.ref qc, .ref qn])), (qc, .inl (cI, 8, .inl cf)), (qn, .inl (cL, 8, .inr (.inl nu)))] s.heap := hP
  have hD : va_D A [(qo, .inl (cL, 1, .inr (.inl ov))), (q0, .inr (1, [.ref qw, .ref qr, .long tb, .int (b2i su), .int (b2i mx)])), (qw, .inl (cL, 8192, .inr (.inl w))), (qr, .inr (0, [.ref qc, .ref qn])), (qc, .inl (cI, 8, .inl cf)), (qn, .inl (cL, 8, .inr (.inl nu)))] := hD
  have htab : c.exceptionTable.toList = [⟨0, 14, 17, 23⟩] := vx_table (x := yL_find) B (hts kL_find List.mem_cons_self)
  have hl := lv_entry ([.ref q0, .long ad, .int ac, .int md, .int sz, .ref qo]) (n := 8) (Nat.le_of_ble_eq_true rfl)
  rw [lg_entry_eq]
  generalize (lg_sl ([.ref q0, .long ad, .int ac, .int md, .int sz, .ref qo]) ++ List.replicate (8 - (lg_sl ([.ref q0, .long ad, .int ac, .int md, .int sz, .ref qo])).length) Slot.unset).toArray = ls at hl ⊢
  have hl : lv_has ls 8 [(0, .ref q0), (1, .long ad), (3, .int ac), (4, .int md), (5, .int sz), (6, .ref qo)] := hl
  refine lv_aload hx hb dL_find_0 (lv_at hl 5 rfl) ?_
  refine lv_iconst (v := 0) hx hb dL_find_2 (by decide) ?_
  refine lv_aload_n hx hb dL_find_3 rfl (lv_at hl 0 rfl) ?_
  refine lv_lload_n hx hb dL_find_4 rfl (lv_at hl 1 rfl) ?_
  refine lv_iload_n hx hb dL_find_5 rfl (lv_at hl 2 rfl) ?_
  refine lv_iload hx hb dL_find_6 (lv_at hl 3 rfl) ?_
  refine lv_iload hx hb dL_find_8 (lv_at hl 4 rfl) ?_
  refine vx_calll (vx_runV (As := [.long ad, .int ac, .int md, .int sz]) (rest := [.int 0, .ref qo]) ⟨hx, hb, hml, hown, hts⟩ (thX1_find l hl0 q0 s.heap.size sa ad ac md sz hi) (cwV 4 hts (gAll (mc1 (wa 246 (by decide +kernel) rfl) (mc1 (wa 247 (by decide +kernel) rfl) (mc1 (wa 248 (by decide +kernel) rfl) (mc1 (wa 15 (by decide +kernel) rfl) mc0)))) (wa 249 (by decide +kernel) rfl) (by decide +kernel)) rfl rfl rfl (by decide +kernel) ⟨Nat.le_of_ble_eq_true rfl, Nat.le_of_ble_eq_true rfl⟩) (xr_pre (ci := 1) (q0 := 0) hK (hP.sub (ws' := (wPW cL cI q0 qw qr qc qn w tb su mx cf nu)) [1, 2, 3, 4, 5] rfl) rfl rfl hX hS hA) rfl rfl hl.1 rfl (lv_room (Nat.le_of_ble_eq_true rfl)) dL_find_10 ⟨Nat.le_of_ble_eq_true rfl, Nat.le_of_ble_eq_true rfl⟩) hS (fun _ _ h => h.elim) (fun q h => hA q h) (fun _ _ h => h.elim) (fun E9 ce q9 u t H1 locs ht hvm hpx hE hz1 hk1 hS hce hcv hcl => ?_) (fun r u t H1 locs ht hvm hpx => hpx.elim)
  have hP : va_P (dC, dI) vwCl [(qo, .inl (cL, 1, .inr (.inl ov))), (q0, .inr (1, [.ref qw, .ref qr, .long tb, .int (b2i su), .int (b2i mx)])), (qw, .inl (cL, 8192, .inr (.inl w))), (qr, .inr (0, [.ref qc, .ref qn])), (qc, .inl (cI, 8, .inl cf)), (qn, .inl (cL, 8, .inr (.inl nu)))] H1 := hP.kept (fun k q hk => hk1 q.1 (hP k q hk).lt (fun h => h))
  refine vx_catch (name := xE2) hown [] ⟨0, 14, 17, 23⟩ [] htab (fun z hz => nomatch hz) (by decide) (by decide) (hts (.classLink RL 23 xE2) (wa 187 (by decide +kernel) rfl)) (by have h9 := hX.2.1.2.2.2; rw [show E9 = xE2 from hE]; exact va_Nw.use rfl h9) hce hcv hcl ?_
  refine lv_astore (lv' := [(7, .ref q9), (0, .ref q0), (1, .long ad), (3, .int ac), (4, .int md), (5, .int sz), (6, .ref qo)]) hx hb dL_find_17 hl (by decide) rfl (fun ls hl => ?_)
  refine lv_iconst (v := 1) hx hb dL_find_19 (by decide) ?_
  have hP9 : va_P (dC, dI) vwCl (wHO cL cI q0 qw qr qc qn w tb su mx cf nu qo ov) H1 := hP
  have hD9 : va_D A (wHO cL cI q0 qw qr qc qn w tb su mx cf nu qo ov) := hD
  exact W.iret (v := 1) hx hb hr (fun t ht hW => ⟨⟨1, (), rfl, rfl, (by rw [ht]; exact hP9), va_K.moved hW.alike hK, hD9⟩, hS.F ht⟩) hS.2.2 dL_find_20
set_option maxHeartbeats 400000 in
set_option maxRecDepth 100000 in
theorem mtL_allows (l : Launch) (dC : Nat → ClassId) (dI : Nat → Nat → Nat) (cL : ClassId) (cI : ClassId) (q0 : Nat) (qw : Nat) (qr : Nat) (qc : Nat) (qn : Nat) (w : Nat → Int64) (tb : Int64) (su : Bool) (mx : Bool) (cf : Nat → Int32) (nu : Nat → Int64) (qo : Nat) (ov : Nat → Int64) (hz : Nat) (ad : Int64) (ac : Int32) (md : Int32) (sz : Int32) (hi : k_isAccess ad ac md sz = true) (hj : k_isPhysical ad = true) : Met l yL_allows wsL_allows ({ frames := 4, cells := 0, slots := 0, locals := 106 }) (va_Pc [.ref q0, .long ad, .int ac, .int md, .int sz, .ref qo] (fun U => U.heap.size = hz ∧ va_P (dC, dI) vwCl (wHO cL cI q0 qw qr qc qn w tb su mx cf nu qo ov) U.heap ∧ va_K (dC, dI) vwCl [(cL, .long), (cI, .int)] U ∧ va_D (fun _ => True) (wHO cL cI q0 qw qr qc qn w tb su mx cf nu qo ov))) (va_Qi (fun r (_ : Unit) => r = 0) (fun _ t => va_P (dC, dI) vwCl (wHO cL cI q0 qw qr qc qn w tb su mx cf nu qo (vp_updL ov 0 (if k_let cf nu ad ac md sz = true then 1 else 0))) t.heap ∧ va_K (dC, dI) vwCl [(cL, .long), (cI, .int)] t ∧ va_D (va_A (wHO cL cI q0 qw qr qc qn w tb su mx cf nu qo ov) hz) (wHO cL cI q0 qw qr qc qn w tb su mx cf nu qo (vp_updL ov 0 (if k_let cf nu ad ac md sz = true then 1 else 0)))) (va_A (wHO cL cI q0 qw qr qc qn w tb su mx cf nu qo ov) hz)) 0 0 (va_A (wHO cL cI q0 qw qr qc qn w tb su mx cf nu qo ov) hz) := by
  refine va_MetW (cc := cL_allows) (maxL := 8) (ret := (some .int)) (hh := [(0, 22, 25, 23)]) (by decide) rfl ?_
  intro p e s m args below meth c s₁ B hml hv
  obtain ⟨rfl, hsz, hP, hK, hD0⟩ := hv
  have hx := B.exec
  have hb := B.bytes
  have hr := B.returns
  have hts := atoms_spec (ws := wsL_allows) B.pre
  have hown : s.vm.findClass RL = some m.cls := findClass_of_methodNamed B.named
  have hlocks := B.notSynchronized
  subst hsz
  have hD := hD0.self (sz := s.heap.size)
  generalize hAe : va_A (wHO cL cI q0 qw qr qc qn w tb su mx cf nu qo ov) s.heap.size = A at hD ⊢
  have hA : ∀ q : Nat, s.heap.size ≤ q → A q := fun q h => by rw [← hAe]; exact Or.inr h
  have hS : va_S A s.heap s.heap [] := va_S.rf
  have hP : va_P (dC, dI) vwCl [(qo, .inl (cL, 1, .inr (.inl ov))), (q0, .inr (1, [.ref qw, .ref qr, .long tb, .int (b2i su), .int (b2i mx)])), (qw, .inl (cL, 8192, .inr (.inl w))), (qr, .inr (0, [.ref qc, .ref qn])), (qc, .inl (cI, 8, .inl cf)), (qn, .inl (cL, 8, .inr (.inl nu)))] s.heap := hP
  have hD : va_D A [(qo, .inl (cL, 1, .inr (.inl ov))), (q0, .inr (1, [.ref qw, .ref qr, .long tb, .int (b2i su), .int (b2i mx)])), (qw, .inl (cL, 8192, .inr (.inl w))), (qr, .inr (0, [.ref qc, .ref qn])), (qc, .inl (cI, 8, .inl cf)), (qn, .inl (cL, 8, .inr (.inl nu)))] := hD
  have hl := lv_entry ([.ref q0, .long ad, .int ac, .int md, .int sz, .ref qo]) (n := 8) (Nat.le_of_ble_eq_true rfl)
  rw [lg_entry_eq]
  generalize (lg_sl ([.ref q0, .long ad, .int ac, .int md, .int sz, .ref qo]) ++ List.replicate (8 - (lg_sl ([.ref q0, .long ad, .int ac, .int md, .int sz, .ref qo])).length) Slot.unset).toArray = ls at hl ⊢
  have hl : lv_has ls 8 [(0, .ref q0), (1, .long ad), (3, .int ac), (4, .int md), (5, .int sz), (6, .ref qo)] := hl
  refine lv_aload hx hb dL_allows_0 (lv_at hl 5 rfl) ?_
  refine lv_iconst (v := 0) hx hb dL_allows_2 (by decide) ?_
  refine lv_aload_n hx hb dL_allows_3 rfl (lv_at hl 0 rfl) ?_
  refine lv_lload_n hx hb dL_allows_4 rfl (lv_at hl 1 rfl) ?_
  refine lv_iload_n hx hb dL_allows_5 rfl (lv_at hl 2 rfl) ?_
  refine lv_iload hx hb dL_allows_6 (lv_at hl 3 rfl) ?_
  refine lv_iload hx hb dL_allows_8 (lv_at hl 4 rfl) ?_
  refine vp_callSi (W.runV (As := [.long ad, .int ac, .int md, .int sz]) (rest := [.int 0, .ref qo]) ⟨hx, hb, hml, hown, hts⟩ (mtX1_allows l dC dI cL cI q0 qw qr qc qn w tb su mx cf nu ad ac md sz (hi) (hj)) (cwV 4 hts (gAll (mc1 (wa 344 (by decide +kernel) rfl) (mc1 (wa 345 (by decide +kernel) rfl) (mc1 (wa 346 (by decide +kernel) rfl) (mc1 (wa 15 (by decide +kernel) rfl) mc0)))) (wa 347 (by decide +kernel) rfl) (by decide +kernel)) rfl rfl rfl (by decide +kernel) ⟨Nat.le_of_ble_eq_true rfl, Nat.le_of_ble_eq_true rfl⟩) (rd_pre (ci := 1) (q0 := 0) hK (hP.sub (ws' := (wPW cL cI q0 qw qr qc qn w tb su mx cf nu)) [1, 2, 3, 4, 5] rfl) rfl rfl) rfl rfl hl.1 rfl (lv_room (Nat.le_of_ble_eq_true rfl)) dL_allows_10 ⟨Nat.le_of_ble_eq_true rfl, Nat.le_of_ble_eq_true rfl⟩) (fun r_1 er_1 => ?_)
  have er_1 : r_1 = (b2i (k_let cf nu ad ac md sz)) := er_1
  subst er_1
  refine lv_if_eq (tgt := 20) hx hb dL_allows_13 (by decide) (fun c_2 => ?_) (fun c_2 => ?_)
  · rw [b2i_z] at c_2
    refine lv_lconst (v := 0) hx hb dL_allows_20 (by decide) ?_
    refine va_last hx hb hK hP hD hS 0 0 rfl rfl (pk_in 0 1 (by decide)) dL_allows_21 (fun H locs hP hD hS => ?_)
    have hP : va_P (dC, dI) vwCl [(qo, .inl (cL, 1, .inr (.inl (vp_updL ov 0 0)))), (q0, .inr (1, [.ref qw, .ref qr, .long tb, .int (b2i su), .int (b2i mx)])), (qw, .inl (cL, 8192, .inr (.inl w))), (qr, .inr (0, [.ref qc, .ref qn])), (qc, .inl (cI, 8, .inl cf)), (qn, .inl (cL, 8, .inr (.inl nu)))] H := by have h9 := hP; simp only [List.set] at h9; rw [sb_cl0] at h9; exact h9
    have hD : va_D A [(qo, .inl (cL, 1, .inr (.inl (vp_updL ov 0 0)))), (q0, .inr (1, [.ref qw, .ref qr, .long tb, .int (b2i su), .int (b2i mx)])), (qw, .inl (cL, 8192, .inr (.inl w))), (qr, .inr (0, [.ref qc, .ref qn])), (qc, .inl (cI, 8, .inl cf)), (qn, .inl (cL, 8, .inr (.inl nu)))] := by have h9 := hD; simp only [List.set] at h9; rw [sb_cl0] at h9; exact h9
    refine lv_goto (tgt := 29) hx hb dL_allows_22 (by decide) ?_
    refine lv_iconst (v := 0) hx hb dL_allows_29 (by decide) ?_
    have w9_0 : (vp_updL ov 0 (if k_let cf nu ad ac md sz = true then 1 else 0)) = (vp_updL ov 0 0) := (by first | rfl | (simp only [c_2, b2i, decide_true, decide_false, Bool.not_true, Bool.not_false, Bool.and_true, Bool.and_false, Bool.true_and, Bool.false_and, Bool.or_true, Bool.or_false, Bool.true_or, Bool.false_or, reduceIte, or_true, true_or, or_false, false_or, and_true, true_and, and_false, false_and, not_true_eq_false, not_false_eq_true, Bool.false_eq_true, eq_self]; done) | (simp [c_2]; done))
    have hP9 : va_P (dC, dI) vwCl (wHO cL cI q0 qw qr qc qn w tb su mx cf nu qo (vp_updL ov 0 (if k_let cf nu ad ac md sz = true then 1 else 0))) H := (by rw [w9_0]; exact hP)
    have hD9 : va_D A (wHO cL cI q0 qw qr qc qn w tb su mx cf nu qo (vp_updL ov 0 (if k_let cf nu ad ac md sz = true then 1 else 0))) := (by rw [w9_0]; exact hD)
    exact W.iret (v := 0) hx hb hr (fun t ht hW => ⟨⟨0, (), rfl, rfl, (by rw [ht]; exact hP9), va_K.moved hW.alike hK, hD9⟩, hS.F ht⟩) hS.2.2 dL_allows_30
  · rw [b2i_z] at c_2
    rw [Bool.not_eq_false] at c_2
    refine lv_lconst (v := 1) hx hb dL_allows_16 (by decide) ?_
    refine lv_goto (tgt := 21) hx hb dL_allows_17 (by decide) ?_
    refine va_last hx hb hK hP hD hS 0 0 rfl rfl (pk_in 0 1 (by decide)) dL_allows_21 (fun H locs hP hD hS => ?_)
    have hP : va_P (dC, dI) vwCl [(qo, .inl (cL, 1, .inr (.inl (vp_updL ov 0 1)))), (q0, .inr (1, [.ref qw, .ref qr, .long tb, .int (b2i su), .int (b2i mx)])), (qw, .inl (cL, 8192, .inr (.inl w))), (qr, .inr (0, [.ref qc, .ref qn])), (qc, .inl (cI, 8, .inl cf)), (qn, .inl (cL, 8, .inr (.inl nu)))] H := by have h9 := hP; simp only [List.set] at h9; rw [sb_cl0] at h9; exact h9
    have hD : va_D A [(qo, .inl (cL, 1, .inr (.inl (vp_updL ov 0 1)))), (q0, .inr (1, [.ref qw, .ref qr, .long tb, .int (b2i su), .int (b2i mx)])), (qw, .inl (cL, 8192, .inr (.inl w))), (qr, .inr (0, [.ref qc, .ref qn])), (qc, .inl (cI, 8, .inl cf)), (qn, .inl (cL, 8, .inr (.inl nu)))] := by have h9 := hD; simp only [List.set] at h9; rw [sb_cl0] at h9; exact h9
    refine lv_goto (tgt := 29) hx hb dL_allows_22 (by decide) ?_
    refine lv_iconst (v := 0) hx hb dL_allows_29 (by decide) ?_
    have w9_0 : (vp_updL ov 0 (if k_let cf nu ad ac md sz = true then 1 else 0)) = (vp_updL ov 0 1) := (by first | rfl | (simp only [c_2, b2i, decide_true, decide_false, Bool.not_true, Bool.not_false, Bool.and_true, Bool.and_false, Bool.true_and, Bool.false_and, Bool.or_true, Bool.or_false, Bool.true_or, Bool.false_or, reduceIte, or_true, true_or, or_false, false_or, and_true, true_and, and_false, false_and, not_true_eq_false, not_false_eq_true, Bool.false_eq_true, eq_self]; done) | (simp [c_2]; done))
    have hP9 : va_P (dC, dI) vwCl (wHO cL cI q0 qw qr qc qn w tb su mx cf nu qo (vp_updL ov 0 (if k_let cf nu ad ac md sz = true then 1 else 0))) H := (by rw [w9_0]; exact hP)
    have hD9 : va_D A (wHO cL cI q0 qw qr qc qn w tb su mx cf nu qo (vp_updL ov 0 (if k_let cf nu ad ac md sz = true then 1 else 0))) := (by rw [w9_0]; exact hD)
    exact W.iret (v := 0) hx hb hr (fun t ht hW => ⟨⟨0, (), rfl, rfl, (by rw [ht]; exact hP9), va_K.moved hW.alike hK, hD9⟩, hS.F ht⟩) hS.2.2 dL_allows_30
set_option maxHeartbeats 400000 in
set_option maxRecDepth 100000 in
theorem mtL_allows_no (l : Launch) (hl0 : l.stackTraces = false) (dC : Nat → ClassId) (dI : Nat → Nat → Nat) (cL : ClassId) (cI : ClassId) (q0 : Nat) (qw : Nat) (qr : Nat) (qc : Nat) (qn : Nat) (w : Nat → Int64) (tb : Int64) (su : Bool) (mx : Bool) (cf : Nat → Int32) (nu : Nat → Int64) (qo : Nat) (ov : Nat → Int64) (hz sa : Nat) (ad : Int64) (ac : Int32) (md : Int32) (sz : Int32) (hi : ¬ (k_isAccess ad ac md sz = true ∧ k_isPhysical ad = true)) : Met l yL_allows wsL_allows ({ frames := 7, cells := 1, slots := 6, locals := 116 }) (va_Pc [.ref q0, .long ad, .int ac, .int md, .int sz, .ref qo] (fun U => U.heap.size = hz ∧ va_P (dC, dI) vwCl (wHO cL cI q0 qw qr qc qn w tb su mx cf nu qo ov) U.heap ∧ va_K (dC, dI) vwCl [(cL, .long), (cI, .int)] U ∧ va_D (fun _ => True) (wHO cL cI q0 qw qr qc qn w tb su mx cf nu qo ov) ∧ xR RX1 86 "no such access, or no physical address" sa xE2 (va_A (wHO cL cI q0 qw qr qc qn w tb su mx cf nu qo ov) hz) U)) (va_Qi (fun r (_ : Unit) => r = 1) (fun _ t => va_P (dC, dI) vwCl (wHO cL cI q0 qw qr qc qn w tb su mx cf nu qo ov) t.heap ∧ va_K (dC, dI) vwCl [(cL, .long), (cI, .int)] t ∧ va_D (va_A (wHO cL cI q0 qw qr qc qn w tb su mx cf nu qo ov) hz) (wHO cL cI q0 qw qr qc qn w tb su mx cf nu qo ov)) (va_A (wHO cL cI q0 qw qr qc qn w tb su mx cf nu qo ov) hz)) 1 6 (va_A (wHO cL cI q0 qw qr qc qn w tb su mx cf nu qo ov) hz) := by
  refine va_MetW (cc := cL_allows) (maxL := 8) (ret := (some .int)) (hh := [(0, 22, 25, 23)]) (by decide) rfl ?_
  intro p e s m args below meth c s₁ B hml hv
  obtain ⟨rfl, hsz, hP, hK, hD0, hX⟩ := hv
  have hx := B.exec
  have hb := B.bytes
  have hr := B.returns
  have hts := atoms_spec (ws := wsL_allows) B.pre
  have hown : s.vm.findClass RL = some m.cls := findClass_of_methodNamed B.named
  have hlocks := B.notSynchronized
  subst hsz
  have hD := hD0.self (sz := s.heap.size)
  generalize hAe : va_A (wHO cL cI q0 qw qr qc qn w tb su mx cf nu qo ov) s.heap.size = A at hD ⊢ hX
  have hA : ∀ q : Nat, s.heap.size ≤ q → A q := fun q h => by rw [← hAe]; exact Or.inr h
  have hS : va_S A s.heap s.heap [] := va_S.rf
  have hP : va_P (dC, dI) vwCl [(qo, .inl (cL, 1, .inr (.inl ov))), (q0, .inr (1, [.ref qw, .ref qr, .long tb, .int (b2i su), .int (b2i mx)])), (qw, .inl (cL, 8192, .inr (.inl w))), (qr, .inr (0, [.ref qc, .ref qn])), (qc, .inl (cI, 8, .inl cf)), (qn, .inl (cL, 8, .inr (.inl nu)))] s.heap := hP
  have hD : va_D A [(qo, .inl (cL, 1, .inr (.inl ov))), (q0, .inr (1, [.ref qw, .ref qr, .long tb, .int (b2i su), .int (b2i mx)])), (qw, .inl (cL, 8192, .inr (.inl w))), (qr, .inr (0, [.ref qc, .ref qn])), (qc, .inl (cI, 8, .inl cf)), (qn, .inl (cL, 8, .inr (.inl nu)))] := hD
  have htab : c.exceptionTable.toList = [⟨0, 22, 25, 23⟩] := vx_table (x := yL_allows) B (hts kL_allows List.mem_cons_self)
  have hl := lv_entry ([.ref q0, .long ad, .int ac, .int md, .int sz, .ref qo]) (n := 8) (Nat.le_of_ble_eq_true rfl)
  rw [lg_entry_eq]
  generalize (lg_sl ([.ref q0, .long ad, .int ac, .int md, .int sz, .ref qo]) ++ List.replicate (8 - (lg_sl ([.ref q0, .long ad, .int ac, .int md, .int sz, .ref qo])).length) Slot.unset).toArray = ls at hl ⊢
  have hl : lv_has ls 8 [(0, .ref q0), (1, .long ad), (3, .int ac), (4, .int md), (5, .int sz), (6, .ref qo)] := hl
  refine lv_aload hx hb dL_allows_0 (lv_at hl 5 rfl) ?_
  refine lv_iconst (v := 0) hx hb dL_allows_2 (by decide) ?_
  refine lv_aload_n hx hb dL_allows_3 rfl (lv_at hl 0 rfl) ?_
  refine lv_lload_n hx hb dL_allows_4 rfl (lv_at hl 1 rfl) ?_
  refine lv_iload_n hx hb dL_allows_5 rfl (lv_at hl 2 rfl) ?_
  refine lv_iload hx hb dL_allows_6 (lv_at hl 3 rfl) ?_
  refine lv_iload hx hb dL_allows_8 (lv_at hl 4 rfl) ?_
  refine vx_calli (vx_runV (As := [.long ad, .int ac, .int md, .int sz]) (rest := [.int 0, .ref qo]) ⟨hx, hb, hml, hown, hts⟩ (thX1_allows l hl0 q0 s.heap.size sa ad ac md sz hi) (cwV 4 hts (gAll (mc1 (wa 344 (by decide +kernel) rfl) (mc1 (wa 345 (by decide +kernel) rfl) (mc1 (wa 346 (by decide +kernel) rfl) (mc1 (wa 15 (by decide +kernel) rfl) mc0)))) (wa 347 (by decide +kernel) rfl) (by decide +kernel)) rfl rfl rfl (by decide +kernel) ⟨Nat.le_of_ble_eq_true rfl, Nat.le_of_ble_eq_true rfl⟩) (xr_pre (ci := 1) (q0 := 0) hK (hP.sub (ws' := (wPW cL cI q0 qw qr qc qn w tb su mx cf nu)) [1, 2, 3, 4, 5] rfl) rfl rfl hX hS hA) rfl rfl hl.1 rfl (lv_room (Nat.le_of_ble_eq_true rfl)) dL_allows_10 ⟨Nat.le_of_ble_eq_true rfl, Nat.le_of_ble_eq_true rfl⟩) hS (fun _ _ h => h.elim) (fun q h => hA q h) (fun _ _ h => h.elim) (fun E9 ce q9 u t H1 locs ht hvm hpx hE hz1 hk1 hS hce hcv hcl => ?_) (fun r u t H1 locs ht hvm hpx => hpx.elim)
  have hP : va_P (dC, dI) vwCl [(qo, .inl (cL, 1, .inr (.inl ov))), (q0, .inr (1, [.ref qw, .ref qr, .long tb, .int (b2i su), .int (b2i mx)])), (qw, .inl (cL, 8192, .inr (.inl w))), (qr, .inr (0, [.ref qc, .ref qn])), (qc, .inl (cI, 8, .inl cf)), (qn, .inl (cL, 8, .inr (.inl nu)))] H1 := hP.kept (fun k q hk => hk1 q.1 (hP k q hk).lt (fun h => h))
  refine vx_catch (name := xE2) hown [] ⟨0, 22, 25, 23⟩ [] htab (fun z hz => nomatch hz) (by decide) (by decide) (hts (.classLink RL 23 xE2) (wa 187 (by decide +kernel) rfl)) (by have h9 := hX.2.1.2.2.2; rw [show E9 = xE2 from hE]; exact va_Nw.use rfl h9) hce hcv hcl ?_
  refine lv_astore (lv' := [(7, .ref q9), (0, .ref q0), (1, .long ad), (3, .int ac), (4, .int md), (5, .int sz), (6, .ref qo)]) hx hb dL_allows_25 hl (by decide) rfl (fun ls hl => ?_)
  refine lv_iconst (v := 1) hx hb dL_allows_27 (by decide) ?_
  have hP9 : va_P (dC, dI) vwCl (wHO cL cI q0 qw qr qc qn w tb su mx cf nu qo ov) H1 := hP
  have hD9 : va_D A (wHO cL cI q0 qw qr qc qn w tb su mx cf nu qo ov) := hD
  exact W.iret (v := 1) hx hb hr (fun t ht hW => ⟨⟨1, (), rfl, rfl, (by rw [ht]; exact hP9), va_K.moved hW.alike hK, hD9⟩, hS.F ht⟩) hS.2.2 dL_allows_28
