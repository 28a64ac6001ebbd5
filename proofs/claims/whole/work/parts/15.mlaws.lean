/-! Laws between the reference's functions and the class's. -/
theorem m_word_eq (a : Int64) : m_isWord a = !decide (k_wordIndex a = -1) := by
  by_cases hw : k_wordIndex a = -1
  · rw [decide_eq_true hw]
    show _ = false
    unfold m_isWord
    by_cases h1 : a < 2147483648
    · simp [h1]
    by_cases h2 : (2147549184 : Int64) ≤ a
    · simp [h2]
    by_cases h3 : a - a / 8 * 8 = 0
    · exfalso
      have h0 : ¬ a < 0 := by
        rw [Int64.lt_iff_toInt_lt] at h1 ⊢
        have e1 : (2147483648 : Int64).toInt = 2147483648 := by decide
        have e2 : (0 : Int64).toInt = 0 := by decide
        omega
      obtain ⟨k, hk, rfl⟩ := pk_lOf h0
      have h1' : ¬ lN k < lN 2147483648 := h1
      rw [pk_lLT hk (by omega)] at h1'
      have h2' : ¬ lN 2147549184 ≤ lN k := h2
      rw [pk_lLE (by omega) hk] at h2'
      have h3' : lN k - lN k / lN 8 * lN 8 = lN 0 := h3
      rw [pk_lRem hk (by omega) (by omega), pk_lEQ (by omega) (by omega)] at h3'
      unfold k_wordIndex at hw
      have es : lN k - 2147483648 = lN (k - 2147483648) := lN_sub (a := k) (b := 2147483648) (by omega)
      rw [es] at hw
      rw [if_neg (show ¬ lN (k - 2147483648) < 0 from fun h => by
        have h' : lN (k - 2147483648) < lN 0 := h
        rw [pk_lLT (by omega) (by omega)] at h'
        omega)] at hw
      rw [if_neg (show ¬ (65536 : Int64) ≤ lN (k - 2147483648) from fun h => by
        have h' : lN 65536 ≤ lN (k - 2147483648) := h
        rw [pk_lLE (by omega) (by omega)] at h'
        omega)] at hw
      have e8 : lN (k - 2147483648) - lN (k - 2147483648) / 8 * 8 = 0 := by
        have h := pk_lRem (a := k - 2147483648) (b := 8) (by omega) (by omega) (by omega)
        rw [show (k - 2147483648) % 8 = 0 by omega] at h
        exact h
      rw [if_pos e8] at hw
      have hq : lN (k - 2147483648) / 8 = lN ((k - 2147483648) / 8) := pk_lDiv (a := k - 2147483648) (b := 8) (by omega) (by omega) (by omega)
      rw [hq, lN_i] at hw
      have hz := nI_toInt (n := (k - 2147483648) / 8) (by omega)
      rw [hw] at hz
      have e1 : (-1 : Int32).toInt = -1 := by decide
      omega
    · simp [h3]
  · rw [decide_eq_false hw]
    show _ = true
    obtain ⟨j, hj, e, -⟩ := wi_nat hw
    have ea : a = lN (2147483648 + 8 * j) := by
      rw [← lN_add, ← e]
      show a = 2147483648 + (a - 2147483648)
      rw [Int64.add_comm, Int64.sub_add_cancel]
    subst ea
    unfold m_isWord
    have h1 : ¬ lN (2147483648 + 8 * j) < 2147483648 := fun h => by
      have h' : lN (2147483648 + 8 * j) < lN 2147483648 := h
      rw [pk_lLT (by omega) (by omega)] at h'
      omega
    have h2 : ¬ (2147549184 : Int64) ≤ lN (2147483648 + 8 * j) := fun h => by
      have h' : lN 2147549184 ≤ lN (2147483648 + 8 * j) := h
      rw [pk_lLE (by omega) (by omega)] at h'
      omega
    have h3 : lN (2147483648 + 8 * j) - lN (2147483648 + 8 * j) / 8 * 8 = 0 := by
      have h := pk_lRem (a := 2147483648 + 8 * j) (b := 8) (by omega) (by omega) (by omega)
      rw [show (2147483648 + 8 * j) % 8 = 0 by omega] at h
      exact h
    rw [decide_eq_false h1, decide_eq_false h2, decide_eq_true h3]
    rfl
theorem m_word_f {a : Int64} (h : m_isWord a = false) : k_wordIndex a = -1 := by
  rw [m_word_eq] at h
  simpa using h
theorem m_word_t {a : Int64} (h : m_isWord a = true) : ¬ k_wordIndex a = -1 := by
  rw [m_word_eq] at h
  simpa using h
theorem m_cell_eq {a : Int64} (h : ¬ k_wordIndex a = -1) : m_cell a = k_wordIndex a := by
  unfold k_wordIndex at h ⊢
  by_cases h1 : a - 2147483648 < 0
  · rw [if_pos h1] at h; exact absurd rfl h
  · rw [if_neg h1] at h ⊢
    by_cases h2 : (65536 : Int64) ≤ a - 2147483648
    · rw [if_pos h2] at h; exact absurd rfl h
    · rw [if_neg h2] at h ⊢
      by_cases h3 : (a - 2147483648) - (a - 2147483648) / 8 * 8 = 0
      · rw [if_pos h3]; rfl
      · rw [if_neg h3] at h; exact absurd rfl h
theorem m_pack_step (cf : Nat → Int32) {r : Nat} (h : r + 1 ≤ 8) : m_packF cf (8 - r) = 256 * m_packF cf (8 - (r + 1)) + Int32.toInt64 (cf r) := by
  rw [show 8 - r = (8 - (r + 1)) + 1 by omega]
  show 256 * m_packF cf (8 - (r + 1)) + Int32.toInt64 (cf (7 - (8 - (r + 1)))) = _
  rw [show 7 - (8 - (r + 1)) = r by omega]
theorem lock_dec : ∀ n, n < 256 → m_has (nI n) 7 = k_isLocked (nI n) := by decide +kernel
theorem r_dec : ∀ n, n < 256 → m_has (nI n) 0 = !decide (nI n &&& 1 = 0) := by decide +kernel
theorem w_dec : ∀ n, n < 256 → m_has (nI n) 1 = !decide (nI n &&& 2 = 0) := by decide +kernel
theorem x_dec : ∀ n, n < 256 → m_has (nI n) 2 = !decide (nI n &&& 4 = 0) := by decide +kernel
theorem legal_dec : ∀ n, n < 256 → m_legal (nI n) = k_legalConfig (nI n) ∧ ∃ j, j < 256 ∧ k_legalConfig (nI n) = nI j := by
  have h1 : ∀ n, n < 256 → m_legal (nI n) = k_legalConfig (nI n) := by decide +kernel
  have h2 : ∀ n, n < 256 → k_legalConfig (nI n) = nI (k_legalConfig (nI n)).toNatClampNeg ∧ (k_legalConfig (nI n)).toNatClampNeg < 256 := by decide +kernel
  exact fun n hn => ⟨h1 n hn, _, (h2 n hn).2, (h2 n hn).1⟩
theorem and159 (x : Int32) : x &&& 159 = (x &&& 255) &&& 159 := by
  rw [Int32.and_assoc]
  rfl
theorem m_legal_eq (x : Int32) : m_legal x = k_legalConfig x := by
  obtain ⟨j, hj, e⟩ := pk_andE x (m := 255) 8 (by decide)
  have h := (legal_dec j hj).1
  unfold m_legal k_legalConfig at h ⊢
  rw [and159 x, e]
  exact h
theorem legal_ok (x : Int32) : ∃ j, j < 256 ∧ k_legalConfig x = nI j := by
  obtain ⟨j, hj, e⟩ := pk_andE x (m := 255) 8 (by decide)
  have h := (legal_dec j hj).2
  unfold k_legalConfig at h ⊢
  rw [and159 x, e]
  exact h
theorem okC_take {cf : Nat → Int32} (hc : okC cf) (cv : Int64) (n : Nat) : okC (k_takeF cf cv n) := by
  induction n with
  | zero => exact hc
  | succ n ih =>
    intro i hi
    show ∃ m, m < 256 ∧ (if k_isLocked (k_takeF cf cv n n) = true then k_takeF cf cv n else upd (k_takeF cf cv n) n (k_legalConfig (Int64.toInt32 (k_ush cv (8 * nI n))))) i = nI m
    by_cases h : k_isLocked (k_takeF cf cv n n) = true
    · rw [if_pos h]; exact ih i hi
    · rw [if_neg h]
      by_cases e : i = n
      · subst e
        rw [pk_us]
        exact legal_ok _
      · rw [pk_un e]
        exact ih i hi
theorem upd_same (f : Nat → Int32) (k : Nat) : upd f k (f k) = f := by
  funext j
  by_cases h : j = k
  · subst h; exact pk_us
  · exact pk_un h
theorem updL_same (f : Nat → Int64) (k : Nat) : vp_updL f k (f k) = f := by
  funext j
  by_cases h : j = k
  · subst h; exact pk_uLs
  · exact pk_uLn h
theorem m_take_step {cf : Nat → Int32} (hc : okC cf) {cv : Int64} {k : Nat} (hk : k < 8) : k_takeF cf cv (k + 1) = upd (k_takeF cf cv k) k (if m_has (k_takeF cf cv k k) 7 = true then k_takeF cf cv k k else m_legal (Int64.toInt32 (k_ush cv (8 * nI k)))) := by
  obtain ⟨n, hn, e⟩ := okC_take hc cv k k hk
  have hl : m_has (k_takeF cf cv k k) 7 = k_isLocked (k_takeF cf cv k k) := by rw [e]; exact lock_dec n hn
  show (if k_isLocked (k_takeF cf cv k k) = true then k_takeF cf cv k else upd (k_takeF cf cv k) k (k_legalConfig (Int64.toInt32 (k_ush cv (8 * nI k))))) = _
  rw [hl, m_legal_eq]
  by_cases h : k_isLocked (k_takeF cf cv k k) = true
  · rw [if_pos h, if_pos h, upd_same]
  · rw [if_neg h, if_neg h]
theorem j7_no {j : Nat} (hj : j < 8) (c : (7 : Int32) ≤ nI j) : ¬ j < 7 := by
  have h : nI 7 ≤ nI j := c
  rw [nI_leI (by omega) (by omega)] at h
  omega
theorem j7_yes {j : Nat} (hj : j < 8) (c : ¬ (7 : Int32) ≤ nI j) : j < 7 := by
  have h : ¬ nI 7 ≤ nI j := c
  rw [nI_leI (by omega) (by omega)] at h
  omega
theorem m_takeNumber_eq {cf : Nat → Int32} {nu : Nat → Int64} (hc : okC cf) {j : Nat} (hj : j < 8) (v : Int64) :
    k_takeNumber cf nu j v = vp_updL nu j (if (m_has (cf j) 7 || (decide (j < 7) && (m_has (cf (j + 1)) 7 && decide (k_kindOf (cf (j + 1)) = 1)))) = true then nu j else v &&& 18014398509481983) := by
  obtain ⟨n, hn, e⟩ := hc j hj
  have hl : m_has (cf j) 7 = k_isLocked (cf j) := by rw [e]; exact lock_dec n hn
  have hx : (decide (j < 7) && (m_has (cf (j + 1)) 7 && decide (k_kindOf (cf (j + 1)) = 1))) = k_isFixed cf j := by
    unfold k_isFixed k_fixes
    by_cases h : j < 7
    · obtain ⟨n2, hn2, e2⟩ := hc (j + 1) (by omega)
      have hl2 : m_has (cf (j + 1)) 7 = k_isLocked (cf (j + 1)) := by rw [e2]; exact lock_dec n2 hn2
      rw [hl2]
      simp [h, show j + 1 < 8 by omega]
    · simp [h, show ¬ j + 1 < 8 by omega]
  rw [hl, hx]
  unfold k_takeNumber
  by_cases h1 : k_isLocked (cf j) = true
  · simp [h1, updL_same]
  · by_cases h2 : k_isFixed cf j = true
    · simp [h1, h2, updL_same]
    · simp [h1, h2]
theorem i0_of {i : Nat} (hi : i < 8) (c : nI i = 0) : i = 0 := by
  have h : nI i = nI 0 := c
  rwa [nI_eq (by omega) (by omega)] at h
theorem kind_c (c : Int32) : ∃ j : Nat, j < 4 ∧ k_kindOf c = nI j := pk_andE (c >>> ((3 : Int32) &&& 31)) (m := 3) 2 (by decide)
theorem kind0 {c : Int32} (h1 : ¬ k_kindOf c = 1) (h2 : k_kindOf c ≤ 1) : k_kindOf c = 0 := by
  obtain ⟨j, hj, e⟩ := kind_c c
  rw [e] at h1 h2 ⊢
  have h2' : nI j ≤ nI 1 := h2
  rw [nI_leI (by omega) (by omega)] at h2'
  have : j ≠ 1 := fun h => h1 (by rw [h]; rfl)
  rw [show j = 0 by omega]; rfl
theorem kind2 {c : Int32} (h1 : ¬ k_kindOf c ≤ 1) (h2 : ¬ k_kindOf c = 3) : k_kindOf c = 2 := by
  obtain ⟨j, hj, e⟩ := kind_c c
  rw [e] at h1 h2 ⊢
  have h1' : ¬ nI j ≤ nI 1 := h1
  rw [nI_leI (by omega) (by omega)] at h1'
  have : j ≠ 3 := fun h => h2 (by rw [h]; rfl)
  rw [show j = 2 by omega]; rfl
theorem four1 (n : Int64) : 4 * (n + 1) = 4 * n + 4 := by
  rw [Int64.mul_add, Int64.mul_one]
theorem two_lN (j : Nat) : 2 * lN (2 ^ j) = lN (2 ^ (j + 1)) := by
  rw [show (2 : Int64) = lN 2 from rfl, lN_mul, Nat.pow_succ, Nat.mul_comm]
theorem two_lN8 (j : Nat) : 2 * lN (8 * 2 ^ j) = lN (8 * 2 ^ (j + 1)) := by
  rw [show (2 : Int64) = lN 2 from rfl, lN_mul, Nat.pow_succ, ← Nat.mul_assoc, Nat.mul_comm 2 8, Nat.mul_assoc, Nat.mul_comm 2]
theorem pow54 {j : Nat} (hj : j ≤ 54) (c : ¬ (18014398509481984 : Int64) ≤ lN (2 ^ j)) : j < 54 := by
  rcases Nat.lt_or_ge j 54 with h | h
  · exact h
  · exfalso
    have e : j = 54 := by omega
    subst e
    exact c (by decide)
theorem ones_next {x y j n0 : Nat} (hx : x = 2 ^ j * y) (hc : ¬ lN x &&& lN (2 ^ j) = 0) (hj : j ≤ 54) (h1 : x + 2 ^ j = n0 + 1) (hn : n0 < 2 ^ 54) : ∃ z, lN x - lN (2 ^ j) = lN (x - 2 ^ j) ∧ 2 ^ j ≤ x ∧ x - 2 ^ j = 2 ^ (j + 1) * z := by
  have hp := b_p54 hj
  have hp0 := Nat.two_pow_pos j
  rw [wb_and (by omega) (by omega), b_and2] at hc
  have hb : x.testBit j = true := by
    by_cases h : x.testBit j = true
    · exact h
    · rw [if_neg h] at hc; exact absurd rfl hc
  rw [hx, b_tb] at hb
  have hy : y % 2 = 1 := of_decide_eq_true hb
  have ey : y = 2 * (y / 2) + 1 := by omega
  have ex : x = 2 ^ (j + 1) * (y / 2) + 2 ^ j := by
    rw [hx, Nat.pow_succ, Nat.mul_assoc]
    conv => lhs; rw [ey, Nat.mul_add, Nat.mul_one]
  exact ⟨y / 2, lN_sub (by omega), by omega, by omega⟩
theorem ones_odd {c : Int32} {n b : Int64} {n0 x y j : Nat} (hk : k_kindOf c = 3) (en : n = lN n0) (hn : n0 < 2 ^ 54) (h1 : x + 2 ^ j = n0 + 1) (h2 : x = 2 ^ j * y) (hj : j ≤ 54) (h : lN x &&& lN (2 ^ j) = 0) :
    k_startOf c n b = 4 * lN x ∧ k_endOf c n = 4 * lN x + lN (8 * 2 ^ j) := by
  have hp := b_p54 hj
  have hp0 := Nat.two_pow_pos j
  rw [wb_and (by omega) (by omega), b_and2] at h
  have hb : ¬ x.testBit j = true := by
    intro hb
    rw [if_pos hb] at h
    have h' : lN (2 ^ j) = lN 0 := h
    rw [pk_lEQ (by omega) (by omega)] at h'
    omega
  rw [h2, b_tb] at hb
  have hy : ¬ y % 2 = 1 := fun e => hb (decide_eq_true e)
  have ey : y = 2 * (y / 2) := by omega
  have ex : x = 2 ^ (j + 1) * (y / 2) := by
    rw [h2, Nat.pow_succ, Nat.mul_assoc]
    conv => lhs; rw [ey]
  have e2 : 2 ^ (j + 1) = 2 * 2 ^ j := by rw [Nat.pow_succ, Nat.mul_comm]
  have en0 : n0 = 2 ^ (j + 1) * (y / 2) ||| (2 ^ j - 1) := by
    rw [← Nat.two_pow_add_eq_or_of_lt (i := j + 1) (by omega)]
    omega
  have en1 : n0 + 1 = 2 ^ (j + 1) * (y / 2) ||| 2 ^ j := by
    rw [← Nat.two_pow_add_eq_or_of_lt (i := j + 1) (by omega)]
    omega
  have ha : n0 &&& (n0 + 1) = x := by
    rw [en1, en0, ← Nat.or_and_distrib_left, Nat.and_comm (2 ^ j - 1), Nat.and_two_pow_sub_one_eq_mod, Nat.mod_self, Nat.or_zero, ← ex]
  have ho : (n0 ||| (n0 + 1)) + 1 = x + 2 * 2 ^ j := by
    have e3 : 2 ^ j - 1 ||| 2 ^ j = 2 * 2 ^ j - 1 := by
      have h := Nat.two_pow_add_eq_or_of_lt (i := j) (b := 2 ^ j - 1) (by omega) 1
      rw [Nat.mul_one] at h
      rw [Nat.or_comm, ← h]
      omega
    have e4 : n0 ||| (n0 + 1) = 2 ^ (j + 1) * (y / 2) ||| (2 * 2 ^ j - 1) := by
      rw [en1, ← e3]
      conv => lhs; rw [en0]
      rw [Nat.or_assoc, ← Nat.or_assoc (2 ^ j - 1), Nat.or_comm (2 ^ j - 1) (2 ^ (j + 1) * (y / 2)), Nat.or_assoc, ← Nat.or_assoc, Nat.or_self]
    rw [e4, ← Nat.two_pow_add_eq_or_of_lt (i := j + 1) (by omega)]
    omega
  have k1 : ¬ k_kindOf c = 1 := by rw [hk]; decide
  have k2 : ¬ k_kindOf c = 2 := by rw [hk]; decide
  unfold k_startOf k_endOf
  rw [if_neg k1, if_neg k2, if_pos hk, if_neg k1, if_neg k2, if_pos hk, en, lN_1, wb_and (by omega) (by omega), wb_or (by omega) (by omega), ha, lN_1, ho]
  refine ⟨rfl, ?_⟩
  rw [show (4 : Int64) = lN 4 from rfl, lN_mul, lN_mul, lN_add, Nat.mul_add, ← Nat.mul_assoc]
theorem ones_big {c : Int32} {n b : Int64} {n0 x y j : Nat} (hk : k_kindOf c = 3) (en : n = lN n0) (hn : n0 < 2 ^ 54) (h1 : x + 2 ^ j = n0 + 1) (h2 : x = 2 ^ j * y) (hj : j ≤ 54) (h : (18014398509481984 : Int64) ≤ lN (2 ^ j)) :
    k_startOf c n b = 4 * lN x ∧ k_endOf c n = 4 * lN x + lN (8 * 2 ^ j) := by
  have hp := b_p54 hj
  have h' : lN (2 ^ 54) ≤ lN (2 ^ j) := h
  rw [pk_lLE (by omega) (by omega)] at h'
  have x0 : x = 0 := by omega
  refine ones_odd hk en hn h1 h2 hj ?_
  rw [x0, wb_and (by omega) (by omega), Nat.zero_and]
  rfl
theorem okS_le {n : Nat} (h : okS n) : n ≤ 8 := by rcases h with h | h | h | h <;> omega
theorem q_eq {q n : Nat} (h : q ≤ n) (hn : n ≤ 8) (c : nI n ≤ nI q) : q = n := by
  rw [nI_leI (by omega) (by omega)] at c
  omega
theorem q_lt {q n : Nat} (h : q ≤ n) (hn : n ≤ 8) (c : ¬ nI n ≤ nI q) : q < n := by
  rw [nI_leI (by omega) (by omega)] at c
  omega
/-- a region's two ends, as numbers -/
def okE (f t : Int64) : Prop := ∃ a b : Nat, a < 2 ^ 58 ∧ b < 2 ^ 58 ∧ f = lN a ∧ t = lN b
theorem cover_ok {nu : Nat → Int64} (hn : okN nu) (c : Int32) {k : Nat} (hk : k < 8) : okE (k_startOf c (nu k) (m_bef nu k)) (k_endOf c (nu k)) := by
  obtain ⟨n, hn1, en⟩ := hn k hk
  obtain ⟨b, hb1, eb⟩ : ∃ b : Nat, b < 2 ^ 54 ∧ m_bef nu k = lN b := by
    unfold m_bef
    by_cases h : k = 0
    · rw [if_pos h]; exact ⟨0, by omega, rfl⟩
    · rw [if_neg h]; exact hn (k - 1) (by omega)
  have ha := Nat.and_lt_two_pow n (y := n + 1) (n := 55) (by omega)
  have ho := Nat.or_lt_two_pow (x := n) (y := n + 1) (n := 55) (by omega) (by omega)
  unfold k_startOf k_endOf
  rw [en, eb, lN_1, wb_and (by omega) (by omega), wb_or (by omega) (by omega), lN_1, show (4 : Int64) = lN 4 from rfl, lN_mul, lN_mul, lN_mul, lN_mul, lN_mul]
  by_cases k1 : k_kindOf c = 1
  · rw [if_pos k1, if_pos k1]; exact ⟨_, _, by omega, by omega, rfl, rfl⟩
  rw [if_neg k1, if_neg k1]
  by_cases k2 : k_kindOf c = 2
  · rw [if_pos k2, if_pos k2]; exact ⟨_, _, by omega, by omega, rfl, rfl⟩
  rw [if_neg k2, if_neg k2]
  by_cases k3 : k_kindOf c = 3
  · rw [if_pos k3, if_pos k3]; exact ⟨_, _, by omega, by omega, rfl, rfl⟩
  rw [if_neg k3, if_neg k3]
  exact ⟨0, 0, by omega, by omega, rfl, rfl⟩
theorem cnt_nat {A F T : Nat} (hA : A < 2 ^ 57) (hF : F < 2 ^ 58) (hT : T < 2 ^ 58) (n : Nat) (hn : n ≤ 8) : m_cnt (lN A) (lN F) (lN T) n = min T (A + n) - max F A := by
  induction n with
  | zero => show 0 = _; omega
  | succ k ih =>
    have ih := ih (by omega)
    show (if lN A + Int32.toInt64 (nI k) < lN F then _ else if lN T ≤ lN A + Int32.toInt64 (nI k) then _ else _) = _
    rw [nI_l (by omega), lN_add, ih]
    by_cases h1 : A + k < F
    · rw [if_pos ((pk_lLT (by omega) (by omega)).mpr h1)]; omega
    · rw [if_neg (fun h => h1 ((pk_lLT (by omega) (by omega)).mp h))]
      by_cases h2 : T ≤ A + k
      · rw [if_pos ((pk_lLE (by omega) (by omega)).mpr h2)]; omega
      · rw [if_neg (fun h => h2 ((pk_lLE (by omega) (by omega)).mp h))]; omega
section Cnt
variable {c : Int32} {n b a : Int64} {sn : Nat}
theorem cnt_all4 (hA : okA a) (hE : okE (k_startOf c n b) (k_endOf c n)) (hs : okS sn) : ∃ A F T : Nat, m_cnt a (k_startOf c n b) (k_endOf c n) sn = min T (A + sn) - max F A ∧
    k_meets c n b a (a + Int32.toInt64 (nI sn)) = decide (F < T ∧ F < A + sn ∧ A < T) ∧ (!decide (a < k_startOf c n b) && !decide (k_endOf c n < a + Int32.toInt64 (nI sn))) = decide (F ≤ A ∧ A + sn ≤ T) := by
  obtain ⟨A, hA, rfl⟩ := hA
  obtain ⟨F, T, hF, hT, eF, eT⟩ := hE
  have h8 := okS_le hs
  refine ⟨A, F, T, ?_, ?_, ?_⟩
  · rw [eF, eT]; exact cnt_nat hA hF hT sn h8
  · unfold k_meets
    rw [eF, eT, nI_l (by omega), lN_add]
    have d1 : decide (lN T ≤ lN F) = decide (T ≤ F) := decide_eq_decide.mpr (pk_lLE (by omega) (by omega))
    have d2 : decide (lN (A + sn) ≤ lN F) = decide (A + sn ≤ F) := decide_eq_decide.mpr (pk_lLE (by omega) (by omega))
    have d3 : decide (lN T ≤ lN A) = decide (T ≤ A) := decide_eq_decide.mpr (pk_lLE (by omega) (by omega))
    rw [d1, d2, d3]
    by_cases h1 : T ≤ F <;> by_cases h2 : A + sn ≤ F <;> by_cases h3 : T ≤ A <;> simp [h1, h2, h3] <;> omega
  · rw [eF, eT, nI_l (by omega), lN_add]
    have d1 : decide (lN A < lN F) = decide (A < F) := decide_eq_decide.mpr (pk_lLT (by omega) (by omega))
    have d2 : decide (lN T < lN (A + sn)) = decide (T < A + sn) := decide_eq_decide.mpr (pk_lLT (by omega) (by omega))
    rw [d1, d2]
    by_cases h1 : A < F <;> by_cases h2 : T < A + sn <;> simp [h1, h2] <;> omega
theorem cnt_le {m : Nat} (h8 : m ≤ 8) : nI m ≤ 0 ↔ m = 0 := by
  have h : nI m ≤ nI 0 ↔ m ≤ 0 := nI_leI (by omega) (by omega)
  exact ⟨fun z => by have := h.mp z; omega, fun z => h.mpr (by omega)⟩
theorem cnt_no (hA : okA a) (hE : okE (k_startOf c n b) (k_endOf c n)) (hs : okS sn) (h : nI (m_cnt a (k_startOf c n b) (k_endOf c n) sn) ≤ 0) : k_meets c n b a (a + Int32.toInt64 (nI sn)) = false := by
  obtain ⟨A, F, T, e1, e2, -⟩ := cnt_all4 hA hE hs
  have h8 := okS_le hs
  rw [cnt_le (by omega), e1] at h
  rw [e2]
  apply decide_eq_false
  rcases hs with z | z | z | z <;> omega
theorem cnt_yes (hA : okA a) (hE : okE (k_startOf c n b) (k_endOf c n)) (hs : okS sn) (h : ¬ nI (m_cnt a (k_startOf c n b) (k_endOf c n) sn) ≤ 0) : k_meets c n b a (a + Int32.toInt64 (nI sn)) = true := by
  obtain ⟨A, F, T, e1, e2, -⟩ := cnt_all4 hA hE hs
  have h8 := okS_le hs
  rw [cnt_le (by omega), e1] at h
  rw [e2]
  apply decide_eq_true
  omega
theorem cnt_part (hA : okA a) (hE : okE (k_startOf c n b) (k_endOf c n)) (hs : okS sn) (hm : k_meets c n b a (a + Int32.toInt64 (nI sn)) = true) (h : ¬ nI (m_cnt a (k_startOf c n b) (k_endOf c n) sn) = nI sn) :
    (!decide (a < k_startOf c n b) && !decide (k_endOf c n < a + Int32.toInt64 (nI sn))) = false := by
  obtain ⟨A, F, T, e1, e2, e3⟩ := cnt_all4 hA hE hs
  have h8 := okS_le hs
  rw [nI_eq (by omega) (by omega), e1] at h
  rw [e3]
  apply decide_eq_false
  omega
theorem cnt_all (hA : okA a) (hE : okE (k_startOf c n b) (k_endOf c n)) (hs : okS sn) (hm : k_meets c n b a (a + Int32.toInt64 (nI sn)) = true) (h : nI (m_cnt a (k_startOf c n b) (k_endOf c n) sn) = nI sn) :
    (!decide (a < k_startOf c n b) && !decide (k_endOf c n < a + Int32.toInt64 (nI sn))) = true := by
  obtain ⟨A, F, T, e1, e2, e3⟩ := cnt_all4 hA hE hs
  have h8 := okS_le hs
  rw [nI_eq (by omega) (by omega), e1] at h
  rw [e3]
  apply decide_eq_true
  rcases hs with z | z | z | z <;> omega
theorem m_holds (hc : ∃ j : Nat, j < 256 ∧ c = nI j) {fin : Int64} {ac md : Int32} : k_holds c n b a fin ac md = ((!decide (a < k_startOf c n b) && !decide (k_endOf c n < fin)) && ((decide (md = 3) && !m_has c 7) || m_has c (if ac = 0 then 2 else if ac = 1 then 0 else 1))) := by
  obtain ⟨j, hj, rfl⟩ := hc
  unfold k_holds k_permits
  rw [lock_dec j hj]
  have hr := r_dec j hj
  have hw := w_dec j hj
  have hx := x_dec j hj
  by_cases h3 : md = 3 <;> by_cases hl : k_isLocked (nI j) = true <;> by_cases h0 : ac = 0 <;> by_cases h1 : ac = 1 <;> simp [h3, hl, h0, h1, hr, hw, hx]
end Cnt
