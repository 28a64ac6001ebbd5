/-! Laws between the reference's functions and the class's. -/
theorem m_word_eq (a : Int64) : m_isWord a = !decide (k_wordIndex a = -1) := by
  sorry
theorem m_word_f {a : Int64} (h : m_isWord a = false) : k_wordIndex a = -1 := by
  rw [m_word_eq] at h
  simpa using h
theorem m_word_t {a : Int64} (h : m_isWord a = true) : ¬ k_wordIndex a = -1 := by
  rw [m_word_eq] at h
  simpa using h
theorem m_cell_eq {a : Int64} (h : ¬ k_wordIndex a = -1) : m_cell a = k_wordIndex a := by
  unfold k_wordIndex at h ⊢
  by_cases h1 : a - 2147483648 < 0
  · rw [if_pos h1] at h; exact absurd rfl h
  · rw [if_neg h1] at h ⊢
    by_cases h2 : (65536 : Int64) ≤ a - 2147483648
    · rw [if_pos h2] at h; exact absurd rfl h
    · rw [if_neg h2] at h ⊢
      by_cases h3 : (a - 2147483648) - (a - 2147483648) / 8 * 8 = 0
      · rw [if_pos h3]; rfl
      · rw [if_neg h3] at h; exact absurd rfl h
theorem m_pack_step (cf : Nat → Int32) {r : Nat} (h : r + 1 ≤ 8) : m_packF cf (8 - r) = 256 * m_packF cf (8 - (r + 1)) + Int32.toInt64 (cf r) := by
  rw [show 8 - r = (8 - (r + 1)) + 1 by omega]
  show 256 * m_packF cf (8 - (r + 1)) + Int32.toInt64 (cf (7 - (8 - (r + 1)))) = _
  rw [show 7 - (8 - (r + 1)) = r by omega]
theorem lock_dec : ∀ n, n < 256 → m_has (nI n) 7 = k_isLocked (nI n) := by decide +kernel
theorem r_dec : ∀ n, n < 256 → m_has (nI n) 0 = !decide (nI n &&& 1 = 0) := by decide +kernel
theorem w_dec : ∀ n, n < 256 → m_has (nI n) 1 = !decide (nI n &&& 2 = 0) := by decide +kernel
theorem x_dec : ∀ n, n < 256 → m_has (nI n) 2 = !decide (nI n &&& 4 = 0) := by decide +kernel
theorem legal_dec : ∀ n, n < 256 → m_legal (nI n) = k_legalConfig (nI n) ∧ ∃ j, j < 256 ∧ k_legalConfig (nI n) = nI j := by
  have h1 : ∀ n, n < 256 → m_legal (nI n) = k_legalConfig (nI n) := by decide +kernel
  have h2 : ∀ n, n < 256 → k_legalConfig (nI n) = nI (k_legalConfig (nI n)).toNatClampNeg ∧ (k_legalConfig (nI n)).toNatClampNeg < 256 := by decide +kernel
  exact fun n hn => ⟨h1 n hn, _, (h2 n hn).2, (h2 n hn).1⟩
theorem and159 (x : Int32) : x &&& 159 = (x &&& 255) &&& 159 := by
  rw [Int32.and_assoc]
  rfl
theorem m_legal_eq (x : Int32) : m_legal x = k_legalConfig x := by
  obtain ⟨j, hj, e⟩ := pk_andE x (m := 255) 8 (by decide)
  have h := (legal_dec j hj).1
  unfold m_legal k_legalConfig at h ⊢
  rw [and159 x, e]
  exact h
theorem legal_ok (x : Int32) : ∃ j, j < 256 ∧ k_legalConfig x = nI j := by
  obtain ⟨j, hj, e⟩ := pk_andE x (m := 255) 8 (by decide)
  have h := (legal_dec j hj).2
  unfold k_legalConfig at h ⊢
  rw [and159 x, e]
  exact h
theorem okC_take {cf : Nat → Int32} (hc : okC cf) (cv : Int64) (n : Nat) : okC (k_takeF cf cv n) := by
  induction n with
  | zero => exact hc
  | succ n ih =>
    intro i hi
    show ∃ m, m < 256 ∧ (if k_isLocked (k_takeF cf cv n n) = true then k_takeF cf cv n else upd (k_takeF cf cv n) n (k_legalConfig (Int64.toInt32 (k_ush cv (8 * nI n))))) i = nI m
    by_cases h : k_isLocked (k_takeF cf cv n n) = true
    · rw [if_pos h]; exact ih i hi
    · rw [if_neg h]
      by_cases e : i = n
      · subst e
        rw [pk_us]
        exact legal_ok _
      · rw [pk_un e]
        exact ih i hi
theorem upd_same (f : Nat → Int32) (k : Nat) : upd f k (f k) = f := by
  funext j
  by_cases h : j = k
  · subst h; exact pk_us
  · exact pk_un h
theorem updL_same (f : Nat → Int64) (k : Nat) : vp_updL f k (f k) = f := by
  funext j
  by_cases h : j = k
  · subst h; exact pk_uLs
  · exact pk_uLn h
theorem m_take_step {cf : Nat → Int32} (hc : okC cf) {cv : Int64} {k : Nat} (hk : k < 8) : k_takeF cf cv (k + 1) = upd (k_takeF cf cv k) k (if m_has (k_takeF cf cv k k) 7 = true then k_takeF cf cv k k else m_legal (Int64.toInt32 (k_ush cv (8 * nI k)))) := by
  obtain ⟨n, hn, e⟩ := okC_take hc cv k k hk
  have hl : m_has (k_takeF cf cv k k) 7 = k_isLocked (k_takeF cf cv k k) := by rw [e]; exact lock_dec n hn
  show (if k_isLocked (k_takeF cf cv k k) = true then k_takeF cf cv k else upd (k_takeF cf cv k) k (k_legalConfig (Int64.toInt32 (k_ush cv (8 * nI k))))) = _
  rw [hl, m_legal_eq]
  by_cases h : k_isLocked (k_takeF cf cv k k) = true
  · rw [if_pos h, if_pos h, upd_same]
  · rw [if_neg h, if_neg h]
theorem j7_no {j : Nat} (hj : j < 8) (c : (7 : Int32) ≤ nI j) : ¬ j < 7 := by
  have h : nI 7 ≤ nI j := c
  rw [nI_leI (by omega) (by omega)] at h
  omega
theorem j7_yes {j : Nat} (hj : j < 8) (c : ¬ (7 : Int32) ≤ nI j) : j < 7 := by
  have h : ¬ nI 7 ≤ nI j := c
  rw [nI_leI (by omega) (by omega)] at h
  omega
theorem m_takeNumber_eq {cf : Nat → Int32} {nu : Nat → Int64} (hc : okC cf) {j : Nat} (hj : j < 8) (v : Int64) :
    k_takeNumber cf nu j v = vp_updL nu j (if (m_has (cf j) 7 || (decide (j < 7) && (m_has (cf (j + 1)) 7 && decide (k_kindOf (cf (j + 1)) = 1)))) = true then nu j else v &&& 18014398509481983) := by
  obtain ⟨n, hn, e⟩ := hc j hj
  have hl : m_has (cf j) 7 = k_isLocked (cf j) := by rw [e]; exact lock_dec n hn
  have hx : (decide (j < 7) && (m_has (cf (j + 1)) 7 && decide (k_kindOf (cf (j + 1)) = 1))) = k_isFixed cf j := by
    unfold k_isFixed k_fixes
    by_cases h : j < 7
    · obtain ⟨n2, hn2, e2⟩ := hc (j + 1) (by omega)
      have hl2 : m_has (cf (j + 1)) 7 = k_isLocked (cf (j + 1)) := by rw [e2]; exact lock_dec n2 hn2
      rw [hl2]
      simp [h, show j + 1 < 8 by omega]
    · simp [h, show ¬ j + 1 < 8 by omega]
  rw [hl, hx]
  unfold k_takeNumber
  by_cases h1 : k_isLocked (cf j) = true
  · simp [h1, updL_same]
  · by_cases h2 : k_isFixed cf j = true
    · simp [h1, h2, updL_same]
    · simp [h1, h2]
