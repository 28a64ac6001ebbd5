/-! Worlds of the class, and small laws that the walks use. -/
abbrev wRG (cL cI : ClassId) (qr qc qn : Nat) (cf : Nat → Int32) (nu : Nat → Int64) : va_W := [(qr, .inr (0, [.ref qc, .ref qn])), (qc, .inl (cI, 8, .inl cf)), (qn, .inl (cL, 8, .inr (.inl nu)))]
abbrev wPW (cL cI : ClassId) (q0 qw qr qc qn : Nat) (w : Nat → Int64) (tb : Int64) (su mx : Bool) (cf : Nat → Int32) (nu : Nat → Int64) : va_W := [(q0, .inr (1, [.ref qw, .ref qr, .long tb, .int (b2i su), .int (b2i mx)])), (qw, .inl (cL, 8192, .inr (.inl w))), (qr, .inr (0, [.ref qc, .ref qn])), (qc, .inl (cI, 8, .inl cf)), (qn, .inl (cL, 8, .inr (.inl nu)))]
theorem rd_pre {s : State} {H : Heap} {D : va_G} {cl : List vw_C} {ws : va_W} {tys : List (ClassId × FieldType)} {q : vw_C} {b ci q0 : Nat} {fs As : List Value} (hK : va_K D cl tys s) (hP : va_P D cl ws H) (hc : cl[ci]? = some q) (he : ws[q0]? = some (b, .inr (ci, fs))) :
    PreV s H q.1 b (va_Pc (.ref b :: As) (fun U => va_P D cl ws U.heap ∧ va_K D cl tys U)) As :=
  ⟨fun a U g mk z => ⟨z.1, z.2.1, va_K.moved (u := U) (U := U.calling g mk a) (Vm.Alike.refl U.vm) z.2.2⟩, va_recv hK hP hc he, fun U hU hW => ⟨rfl, by rw [hU]; exact hP, va_K.moved hW.alike hK⟩⟩
theorem mu_pre {s : State} {H : Heap} {D : va_G} {cl : List vw_C} {ws : va_W} {tys : List (ClassId × FieldType)} {q : vw_C} {b ci q0 : Nat} {fs As : List Value} {A : Nat → Prop} (hK : va_K D cl tys s) (hP : va_P D cl ws H) (hD : va_D A ws) (hc : cl[ci]? = some q) (he : ws[q0]? = some (b, .inr (ci, fs))) :
    PreV s H q.1 b (va_Pc (.ref b :: As) (fun U => U.heap.size = H.size ∧ va_P D cl ws U.heap ∧ va_K D cl tys U ∧ va_D (fun _ => True) ws)) As :=
  ⟨fun a U g mk z => ⟨z.1, z.2.1, z.2.2.1, va_K.moved (u := U) (U := U.calling g mk a) (Vm.Alike.refl U.vm) z.2.2.2.1, z.2.2.2.2⟩, va_recv hK hP hc he, fun U hU hW => ⟨rfl, by rw [hU], by rw [hU]; exact hP, va_K.moved hW.alike hK, hD.weaken (fun _ _ _ _ => trivial)⟩⟩
theorem k8_eq {k : Nat} (hk : k ≤ 8) (c : (8 : Int32) ≤ nI k) : k = 8 := by
  have h : nI 8 ≤ nI k := c
  rw [nI_leI (by omega) (by omega)] at h
  omega
theorem k8_lt {k : Nat} (hk : k ≤ 8) (c : ¬ (8 : Int32) ≤ nI k) : k < 8 := by
  have h : ¬ nI 8 ≤ nI k := c
  rw [nI_leI (by omega) (by omega)] at h
  omega
theorem of8 {i : Int32} (h0 : ¬ i < 0) (h8 : i < 8) : ∃ j : Nat, j < 8 ∧ i = nI j := by
  obtain ⟨j, hj, rfl⟩ := nI_of h0
  have h : nI j < nI 8 := h8
  rw [nI_ltI hj (by omega)] at h
  exact ⟨j, h, rfl⟩
theorem in8 {i : Int32} (h0 : ¬ i < 0) (h8 : i < 8) : vp_in i 8 := by
  obtain ⟨j, hj, rfl⟩ := of8 h0 h8
  exact vp_in_nI hj (by omega)
theorem i8_cl {i : Int32} (h0 : ¬ i < 0) (h8 : i < 8) : Int32.toNatClampNeg (i + 1) = Int32.toNatClampNeg i + 1 := by
  obtain ⟨j, hj, rfl⟩ := of8 h0 h8
  rw [nI_1, nI_clamp (by omega), nI_clamp (by omega)]
theorem i8_no {i : Int32} (h0 : ¬ i < 0) (h8 : i < 8) (c : (8 : Int32) ≤ i + 1) : ¬ (Int32.toNatClampNeg i + 1 < 8) := by
  obtain ⟨j, hj, rfl⟩ := of8 h0 h8
  rw [nI_1] at c
  have h : nI 8 ≤ nI (j + 1) := c
  rw [nI_leI (by omega) (by omega)] at h
  rw [nI_clamp (by omega)]
  omega
theorem i8_yes {i : Int32} (h0 : ¬ i < 0) (h8 : i < 8) (c : ¬ (8 : Int32) ≤ i + 1) : Int32.toNatClampNeg i + 1 < 8 := by
  obtain ⟨j, hj, rfl⟩ := of8 h0 h8
  rw [nI_1] at c
  have h : ¬ nI 8 ≤ nI (j + 1) := c
  rw [nI_leI (by omega) (by omega)] at h
  rw [nI_clamp (by omega)]
  omega
theorem i8_in {i : Int32} (h0 : ¬ i < 0) (h8 : i < 8) (n1 : Int32.toNatClampNeg i + 1 < 8) : vp_in (i + 1) 8 := by
  obtain ⟨j, hj, rfl⟩ := of8 h0 h8
  rw [nI_clamp (by omega)] at n1
  rw [nI_1]
  exact vp_in_nI n1 (by omega)
theorem wi_nat {a : Int64} (h : ¬ k_wordIndex a = -1) : ∃ j : Nat, j < 8192 ∧ a - 2147483648 = lN (8 * j) ∧ k_wordIndex a = nI j := by
  unfold k_wordIndex at h ⊢
  generalize ho : a - 2147483648 = o at h ⊢
  by_cases h1 : o < 0
  · rw [if_pos h1] at h; exact absurd rfl h
  · rw [if_neg h1] at h ⊢
    by_cases h2 : (65536 : Int64) ≤ o
    · rw [if_pos h2] at h; exact absurd rfl h
    · rw [if_neg h2] at h ⊢
      by_cases h3 : o - o / 8 * 8 = 0
      · rw [if_pos h3] at h ⊢
        obtain ⟨k, hk, rfl⟩ := pk_lOf h1
        have h2' : ¬ lN 65536 ≤ lN k := h2
        rw [pk_lLE (by omega) hk] at h2'
        have h3' : lN k - lN k / lN 8 * lN 8 = lN 0 := h3
        rw [pk_lRem hk (by omega) (by omega), pk_lEQ (by omega) (by omega)] at h3'
        refine ⟨k / 8, by omega, by rw [show 8 * (k / 8) = k by omega], ?_⟩
        show Int64.toInt32 (lN k / lN 8) = _
        rw [pk_lDiv hk (by omega) (by omega), lN_i]
      · rw [if_neg h3] at h; exact absurd rfl h
theorem wi_in {a : Int64} (h : ¬ k_wordIndex a = -1) : vp_in (k_wordIndex a) 8192 := by
  obtain ⟨j, hj, -, e⟩ := wi_nat h
  rw [e]
  exact vp_in_nI hj (by omega)
