/-! Laws of the walk. -/
theorem wi_addr {a : Int64} (h : ¬ k_wordIndex a = -1) : okA a := by
  obtain ⟨j, hj, e, -⟩ := wi_nat h
  refine ⟨2147483648 + 8 * j, by omega, ?_⟩
  rw [← lN_add, ← e]
  show a = 2147483648 + (a - 2147483648)
  rw [Int64.add_comm, Int64.sub_add_cancel]
theorem nine (n : Nat) : (9 : Int32) * nI n = nI (9 * n) := (Int32.ofNat_mul 9 n).symm
theorem twelve (n : Nat) : (12 : Int32) + 9 * nI n = nI (12 + 9 * n) := by rw [nine, show (12 : Int32) = nI 12 from rfl, nI_add]
theorem s12 (a : Int64) {n : Nat} (h : n ≤ 3) : k_ush a (12 + 9 * nI n) &&& 511 = k_shr a (12 + 9 * nI n) &&& 511 := by
  have hm : ∀ i < 64, 9 ≤ i → (511 : Int64).toBitVec.getLsbD i = false := by decide
  have key : ∀ s : Nat, s ≤ 39 → (k_ush a (12 + 9 * nI n)).toBitVec = a.toBitVec >>> s → (k_shr a (12 + 9 * nI n)).toBitVec = a.toBitVec.sshiftRight s → k_ush a (12 + 9 * nI n) &&& 511 = k_shr a (12 + 9 * nI n) &&& 511 := by
    intro s hs e1 e2
    apply wb_inj
    rw [Int64.toBitVec_and, Int64.toBitVec_and, e1, e2]
    apply BitVec.eq_of_getLsbD_eq
    intro i hi
    rw [BitVec.getLsbD_and, BitVec.getLsbD_and]
    rcases Nat.lt_or_ge i 9 with z | z
    · rw [BitVec.getLsbD_ushiftRight, BitVec.getLsbD_sshiftRight, if_pos (by omega), decide_eq_false (by omega)]
      simp
    · rw [hm i hi z, Bool.and_false, Bool.and_false]
  have hu : ∀ s : Nat, s < 64 → (k_ush a (nI s)).toBitVec = a.toBitVec >>> s := by
    intro s hs
    unfold k_ush
    rw [wb_cu s hs]
    apply BitVec.eq_of_toNat_eq
    show (a.toUInt64 >>> UInt64.ofNat s).toNat = _
    rw [UInt64.toNat_shiftRight, u_tn (by omega), Nat.mod_eq_of_lt hs, BitVec.toNat_ushiftRight]
    rfl
  have hr : ∀ s : Nat, s < 64 → (k_shr a (nI s)).toBitVec = a.toBitVec.sshiftRight s := by
    intro s hs
    unfold k_shr
    rw [wb_c s hs]
    have e : ((lN s).toBitVec.smod 64).toNat = s := by
      rw [wb_tb, wb_sm s hs, BitVec.toNat_ofNat]
      omega
    show a.toBitVec.sshiftRight ((lN s).toBitVec.smod 64).toNat = _
    rw [e]
  rw [twelve] at key ⊢
  exact key (12 + 9 * n) (by omega) (hu _ (by omega)) (hr _ (by omega))
theorem m_at (pg a : Int64) {n : Nat} (h : n ≤ 3) : 4096 * pg + 8 * (k_ush a (12 + 9 * nI n) &&& 511) = k_entryPlace pg a (nI n) := by
  unfold k_entryPlace k_shiftOf
  rw [s12 a h, Int64.mul_comm pg, Int64.mul_comm _ 8]
theorem ushN {n k : Nat} (hn : n < 2 ^ 64) (hk : k < 64) : k_ush (lN n) (nI k) = lN (n / 2 ^ k) := wb_shr hn hk
theorem sortN {t : Int64} {v : Nat} (hv : v < 16) : k_ush t 60 = lN v ↔ k_sortOf t = nI v := by
  obtain ⟨n, hn, rfl⟩ := wb_of t
  unfold k_sortOf
  have e : k_ush (lN n) 60 = lN (n / 2 ^ 60) := ushN (k := 60) hn (by decide)
  have hq : n / 2 ^ 60 < 16 := by omega
  rw [e, lN_i, pk_lEQ (by omega) (by omega), nI_eq (by omega) (by omega)]
theorem sort8 {t : Int64} : k_ush t 60 = 8 ↔ k_sortOf t = 8 := sortN (v := 8) (by decide)
theorem sort0 {t : Int64} : k_ush t 60 = 0 ↔ k_sortOf t = 0 := sortN (v := 0) (by decide)
theorem sort9 {t : Int64} : k_ush t 60 = 9 ↔ k_sortOf t = 9 := sortN (v := 9) (by decide)
theorem bitN {n k : Nat} (hn : n < 2 ^ 64) (hk : k < 64) : m_bit (lN n) (nI k) = n.testBit k := by
  unfold m_bit
  have e : k_ush (lN n) (nI k) &&& 1 = lN (n / 2 ^ k % 2) := wb_bit hn hk
  rw [e, Nat.testBit_eq_decide_div_mod_eq]
  exact decide_eq_decide.mpr (pk_lEQ (a := n / 2 ^ k % 2) (b := 1) (by omega) (by omega))
theorem hasB {n k : Nat} (hn : n < 2 ^ 64) (hk : k < 63) : k_has (lN n) (lN (2 ^ k)) = n.testBit k := by
  have hp := wb_lt2 hk
  have hp0 := Nat.two_pow_pos k
  unfold k_has
  rw [wb_and hn (by omega), b_and2]
  by_cases h : n.testBit k = true
  · rw [if_pos h, h]
    have e : ¬ lN (2 ^ k) = 0 := by
      intro z
      have z' : lN (2 ^ k) = lN 0 := z
      rw [pk_lEQ (by omega) (by omega)] at z'
      omega
    rw [decide_eq_false e]; rfl
  · rw [if_neg h, Bool.eq_false_iff.mpr h]; rfl
theorem hasO {n x y : Nat} (hn : n < 2 ^ 64) (hx : x < 2 ^ 63) (hy : y < 2 ^ 63) : k_has (lN n) (lN (x ||| y)) = (k_has (lN n) (lN x) || k_has (lN n) (lN y)) := by
  have ho := Nat.or_lt_two_pow hx hy
  unfold k_has
  rw [wb_and hn (by omega), wb_and hn (by omega), wb_and hn (by omega), Nat.and_or_distrib_left]
  have b1 := Nat.and_lt_two_pow n hx
  have b2 := Nat.and_lt_two_pow n hy
  have b3 := Nat.or_lt_two_pow b1 b2
  have z : ∀ q : Nat, q < 2 ^ 63 → (lN q = 0 ↔ q = 0) := fun q hq => pk_lEQ (a := q) (b := 0) hq (by omega)
  have i1 := z _ b1
  have i2 := z _ b2
  have i3 := z _ b3
  rw [Nat.or_eq_zero_iff] at i3
  by_cases h1 : lN (n &&& x) = 0 <;> by_cases h2 : lN (n &&& y) = 0
  · rw [decide_eq_true h1, decide_eq_true h2, decide_eq_true (i3.mpr ⟨i1.mp h1, i2.mp h2⟩)]; rfl
  · rw [decide_eq_true h1, decide_eq_false h2, decide_eq_false (fun h => h2 (i2.mpr (i3.mp h).2))]; rfl
  · rw [decide_eq_false h1, decide_eq_true h2, decide_eq_false (fun h => h1 (i1.mpr (i3.mp h).1))]; rfl
  · rw [decide_eq_false h1, decide_eq_false h2, decide_eq_false (fun h => h2 (i2.mpr (i3.mp h).2))]; rfl
theorem has1 (e : Int64) : k_has e 1 = m_bit e 0 := by
  obtain ⟨n, hn, rfl⟩ := wb_of e
  exact (hasB (k := 0) hn (by decide)).trans (bitN (k := 0) hn (by decide)).symm
theorem has2 (e : Int64) : k_has e 2 = m_bit e 1 := by
  obtain ⟨n, hn, rfl⟩ := wb_of e
  exact (hasB (k := 1) hn (by decide)).trans (bitN (k := 1) hn (by decide)).symm
theorem has4 (e : Int64) : k_has e 4 = m_bit e 2 := by
  obtain ⟨n, hn, rfl⟩ := wb_of e
  exact (hasB (k := 2) hn (by decide)).trans (bitN (k := 2) hn (by decide)).symm
theorem has8 (e : Int64) : k_has e 8 = m_bit e 3 := by
  obtain ⟨n, hn, rfl⟩ := wb_of e
  exact (hasB (k := 3) hn (by decide)).trans (bitN (k := 3) hn (by decide)).symm
theorem has16 (e : Int64) : k_has e 16 = m_bit e 4 := by
  obtain ⟨n, hn, rfl⟩ := wb_of e
  exact (hasB (k := 4) hn (by decide)).trans (bitN (k := 4) hn (by decide)).symm
theorem has64 (e : Int64) : k_has e 64 = m_bit e 6 := by
  obtain ⟨n, hn, rfl⟩ := wb_of e
  exact (hasB (k := 6) hn (by decide)).trans (bitN (k := 6) hn (by decide)).symm
theorem has128 (e : Int64) : k_has e 128 = m_bit e 7 := by
  obtain ⟨n, hn, rfl⟩ := wb_of e
  exact (hasB (k := 7) hn (by decide)).trans (bitN (k := 7) hn (by decide)).symm
theorem last_eq (e : Int64) : k_isLast e = (m_bit e 1 || m_bit e 3) := by
  rw [← has2, ← has8]
  unfold k_isLast
  obtain ⟨n, hn, rfl⟩ := wb_of e
  exact hasO (x := 2) (y := 8) hn (by decide) (by decide)
theorem has208 (e : Int64) : k_has e 208 = (m_bit e 4 || m_bit e 6 || m_bit e 7) := by
  rw [← has16, ← has64, ← has128]
  obtain ⟨n, hn, rfl⟩ := wb_of e
  have h1 : k_has (lN n) 208 = (k_has (lN n) 80 || k_has (lN n) 128) := hasO (x := 80) (y := 128) hn (by decide) (by decide)
  have h2 : k_has (lN n) 80 = (k_has (lN n) 16 || k_has (lN n) 64) := hasO (x := 16) (y := 64) hn (by decide) (by decide)
  rw [h1, h2]
theorem mal_eq (e : Int64) : k_isMalformed e = (m_isBroken e || (!(m_bit e 1 || m_bit e 3) && (m_bit e 4 || m_bit e 6 || m_bit e 7))) := by
  unfold k_isMalformed m_isBroken
  rw [has1, has4, has2, last_eq, has208]
theorem grants_eq {su mx : Bool} {ac md : Int32} (hmd : md = 0 ∨ md = 1) (hac : ac = 0 ∨ ac = 1 ∨ ac = 2) (e : Int64) (d : Int32) :
    k_grants su mx e ac md d = (decide (k_pageNumber e &&& (k_shl 1 (9 * d) - 1) = 0) && !m_refuses su mx e ac md) := by
  unfold k_grants
  rw [Bool.and_assoc]
  congr 1
  unfold k_openMode k_openAccess m_refuses
  rw [has16, has8, has4, has2]
  rcases hmd with rfl | rfl <;> rcases hac with rfl | rfl | rfl <;> cases su <;> cases mx <;> cases m_bit e 1 <;> cases m_bit e 2 <;> cases m_bit e 3 <;> cases m_bit e 4 <;> rfl
theorem m_marks (e : Int64) (ac : Int32) : (e &&& k_marks ac = k_marks ac) ↔ (m_bit e 6 = true ∧ (ac = 2 → m_bit e 7 = true)) := by
  obtain ⟨n, hn, rfl⟩ := wb_of e
  have e6 : m_bit (lN n) 6 = n.testBit 6 := bitN (k := 6) hn (by decide)
  have e7 : m_bit (lN n) 7 = n.testBit 7 := bitN (k := 7) hn (by decide)
  have a6 : n &&& 64 = if n.testBit 6 = true then 64 else 0 := b_and2 n 6
  have a7 : n &&& 128 = if n.testBit 7 = true then 128 else 0 := b_and2 n 7
  rw [e6, e7]
  unfold k_marks
  by_cases h : ac = 2
  · rw [if_pos h]
    have e1 : lN n &&& 192 = lN (n &&& (64 ||| 128)) := wb_and (b := 192) hn (by decide)
    rw [e1, Nat.and_or_distrib_left, a6, a7]
    by_cases h6 : n.testBit 6 = true <;> by_cases h7 : n.testBit 7 = true <;> simp [h, h6, h7] <;> decide
  · rw [if_neg h]
    have e1 : lN n &&& 64 = lN (n &&& 64) := wb_and (b := 64) hn (by decide)
    rw [e1, a6]
    by_cases h6 : n.testBit 6 = true <;> simp [h, h6] <;> decide
theorem km2 : k_marks 2 = 192 := rfl
theorem pnN (e : Int64) : ∃ p : Nat, p < 2 ^ 44 ∧ k_pageNumber e = lN p := by
  obtain ⟨n, hn, rfl⟩ := wb_of e
  unfold k_pageNumber
  have e1 : k_ush (lN n) 10 = lN (n / 2 ^ 10) := ushN (k := 10) hn (by decide)
  have e2 : lN (n / 2 ^ 10) &&& 17592186044415 = lN (n / 2 ^ 10 % 2 ^ 44) := wb_mask (n := n / 2 ^ 10) (k := 44) (by omega) (by decide)
  exact ⟨n / 2 ^ 10 % 2 ^ 44, by omega, by rw [e1, e2]⟩
theorem shl1 {k : Nat} (hk : k < 63) : k_shl 1 (nI k) - 1 = lN (2 ^ k - 1) := by
  have e : k_shl 1 (nI k) = lN (1 * 2 ^ k) := wb_shl 1 (k := k) (by omega)
  have hp0 := Nat.two_pow_pos k
  rw [e, Nat.one_mul]
  exact lN_sub (a := 2 ^ k) (b := 1) (by omega)
theorem targ {e a : Int64} {n : Nat} (h : n ≤ 3) (hl : k_pageNumber e &&& (k_shl 1 (9 * nI n) - 1) = 0) : ∃ p A : Nat, p < 2 ^ 44 ∧ A < 2 ^ (12 + 9 * n) ∧ k_pageNumber e = lN p ∧ a &&& lN (2 ^ (12 + 9 * n) - 1) = lN A ∧ k_target e a (nI n) = lN (p * 4096 + A) := by
  obtain ⟨p, hp, ep⟩ := pnN e
  obtain ⟨x, hx, rfl⟩ := wb_of a
  rw [nine, shl1 (by omega), ep] at hl
  rw [wb_mask (by omega) (by omega)] at hl
  have hq1 : 2 ^ (9 * n) ≤ 2 ^ 27 := Nat.pow_le_pow_right (by decide) (by omega)
  have hq0 := Nat.two_pow_pos (9 * n)
  have hq2 := Nat.mod_lt p hq0
  have hl' : lN (p % 2 ^ (9 * n)) = lN 0 := hl
  rw [pk_lEQ (by omega) (by omega)] at hl'
  have em : 2 ^ (12 + 9 * n) = 4096 * 2 ^ (9 * n) := by rw [Nat.pow_add]
  have hA := Nat.mod_lt x (Nat.two_pow_pos (12 + 9 * n))
  refine ⟨p, x % 2 ^ (12 + 9 * n), hp, hA, ep, wb_mask hx (by omega), ?_⟩
  unfold k_target k_shiftOf
  rw [twelve, shl1 (by omega), wb_mask hx (by omega), ep, show (4096 : Int64) = lN 4096 from rfl, lN_mul]
  have e5 : p * 4096 = p / 2 ^ (9 * n) * 2 ^ (12 + 9 * n) := by
    have h9 := Nat.div_add_mod p (2 ^ (9 * n))
    rw [hl', Nat.add_zero] at h9
    rw [em, Nat.mul_comm 4096, ← Nat.mul_assoc, Nat.mul_comm (p / 2 ^ (9 * n)), h9]
  rw [e5]
  exact g_or rfl hA (by omega)
theorem target_eq {e a : Int64} {n : Nat} (h : n ≤ 3) (hl : k_pageNumber e &&& (k_shl 1 (9 * nI n) - 1) = 0) : 4096 * k_pageNumber e + (a &&& (4096 * (k_shl 1 (9 * nI n) - 1) + 4095)) = k_target e a (nI n) := by
  obtain ⟨p, A, hp, hA, e1, e2, e3⟩ := targ (a := a) h hl
  have hq0 := Nat.two_pow_pos (9 * n)
  have em : 2 ^ (12 + 9 * n) = 4096 * 2 ^ (9 * n) := by rw [Nat.pow_add]
  have e4 : 4096 * (k_shl 1 (9 * nI n) - 1) + 4095 = lN (2 ^ (12 + 9 * n) - 1) := by
    rw [nine, shl1 (by omega), show (4096 : Int64) = lN 4096 from rfl, show (4095 : Int64) = lN 4095 from rfl, lN_mul, lN_add, em]
    congr 1
    omega
  rw [e4, e2, e3, e1, show (4096 : Int64) = lN 4096 from rfl, lN_mul, lN_add, Nat.mul_comm]
theorem phys_ok {a : Int64} (h : k_ush a 56 = 0) : okA a := by
  obtain ⟨n, hn, rfl⟩ := wb_of a
  have e : k_ush (lN n) 56 = lN (n / 2 ^ 56) := ushN (k := 56) hn (by decide)
  rw [e] at h
  have h' : lN (n / 2 ^ 56) = lN 0 := h
  rw [pk_lEQ (by omega) (by omega)] at h'
  exact ⟨n, by omega, rfl⟩
theorem pf_neg (ac : Int32) : k_pageFault ac < 0 := by
  unfold k_pageFault
  by_cases h : ac = 0
  · rw [if_pos h]; decide
  · rw [if_neg h]
    by_cases h : ac = 1
    · rw [if_pos h]; decide
    · rw [if_neg h]; decide
theorem af_neg (ac : Int32) : k_accessFault ac < 0 := by
  unfold k_accessFault
  by_cases h : ac = 0
  · rw [if_pos h]; decide
  · rw [if_neg h]
    by_cases h : ac = 1
    · rw [if_pos h]; decide
    · rw [if_neg h]; decide
theorem last_ok {w : Nat → Int64} {su mx : Bool} {cf : Nat → Int32} {nu : Nat → Int64} {a : Int64} {ac md : Int32} {n : Nat} {pl : Int64} (hn : n ≤ 3) (h : ¬ (k_last w su mx cf nu a ac md n pl).1 < 0) : okA (k_last w su mx cf nu a ac md n pl).1 := by
  unfold k_last at h ⊢
  by_cases h1 : k_grants su mx (k_at w pl) ac md (nI n) = false
  · rw [if_pos h1] at h; exact absurd (pf_neg ac) h
  · rw [if_neg h1] at h ⊢
    by_cases h2 : (k_mark w cf nu pl (k_at w pl) ac).1 = true
    · rw [if_pos h2]
      have hl : k_pageNumber (k_at w pl) &&& (k_shl 1 (9 * nI n) - 1) = 0 := by
        by_cases z : k_pageNumber (k_at w pl) &&& (k_shl 1 (9 * nI n) - 1) = 0
        · exact z
        · exact absurd (by unfold k_grants; rw [decide_eq_false z]; rfl) h1
      obtain ⟨p, A, hp, hA, -, -, e3⟩ := targ (a := a) hn hl
      have hq : 2 ^ (12 + 9 * n) ≤ 2 ^ 39 := Nat.pow_le_pow_right (by decide) (by omega)
      exact ⟨p * 4096 + A, by omega, e3⟩
    · rw [if_neg h2] at h; exact absurd (af_neg ac) h
theorem walk_ok {w : Nat → Int64} {su mx : Bool} {cf : Nat → Int32} {nu : Nat → Int64} {a : Int64} {ac md : Int32} (n : Nat) (hn : n ≤ 4) (pg : Int64) (h : ¬ (k_walkF w su mx cf nu a ac md n pg).1 < 0) : okA (k_walkF w su mx cf nu a ac md n pg).1 := by
  induction n generalizing pg with
  | zero => exact absurd (pf_neg ac) h
  | succ n ih =>
    unfold k_walkF at h ⊢
    by_cases h1 : k_wordIndex (k_entryPlace pg a (nI n)) = -1 ∨ k_let cf nu (k_entryPlace pg a (nI n)) 1 1 8 = false
    · rw [if_pos h1] at h; exact absurd (af_neg ac) h
    rw [if_neg h1] at h ⊢
    by_cases h2 : k_isMalformed (k_at w (k_entryPlace pg a (nI n))) = true
    · rw [if_pos h2] at h; exact absurd (pf_neg ac) h
    rw [if_neg h2] at h ⊢
    by_cases h3 : k_isLast (k_at w (k_entryPlace pg a (nI n))) = true
    · rw [if_pos h3] at h ⊢; exact last_ok (by omega) h
    rw [if_neg h3] at h ⊢
    exact ih (by omega) _ h
theorem find_ok {w : Nat → Int64} {t : Int64} {su mx : Bool} {cf : Nat → Int32} {nu : Nat → Int64} {a : Int64} {ac md : Int32} (h : ¬ (k_walk0 w t su mx cf nu a ac md).1 < 0) : okA (k_walk0 w t su mx cf nu a ac md).1 := by
  unfold k_walk0 at h ⊢
  by_cases h1 : k_above a (nI (k_depths t)) = 0 ∨ k_above a (nI (k_depths t)) = -1
  · rw [if_pos h1] at h ⊢
    refine walk_ok _ ?_ _ h
    unfold k_depths
    by_cases z : k_sortOf t = 8
    · rw [if_pos z]; decide
    · rw [if_neg z]; decide
  · rw [if_neg h1] at h; exact absurd (pf_neg ac) h
theorem md01 {md : Int32} (h : md = 0 ∨ md = 1 ∨ md = 3) (h3 : ¬ md = 3) : md = 0 ∨ md = 1 := by
  rcases h with h | h | h
  · exact Or.inl h
  · exact Or.inr h
  · exact absurd h h3
theorem tr_eq (w : Nat → Int64) (t : Int64) (su mx : Bool) (cf : Nat → Int32) (nu : Nat → Int64) (a : Int64) (ac md : Int32) :
    k_translate w t su mx cf nu a ac md = if md = 3 ∨ k_sortOf t = 0 then (if k_isPhysical a = true then (a, w) else (k_accessFault ac, w)) else k_walk0 w t su mx cf nu a ac md := rfl
