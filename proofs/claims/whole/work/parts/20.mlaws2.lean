/-! Laws of the walk. -/
theorem wi_addr {a : Int64} (h : ¬ k_wordIndex a = -1) : okA a := by
  obtain ⟨j, hj, e, -⟩ := wi_nat h
  refine ⟨2147483648 + 8 * j, by omega, ?_⟩
  rw [← lN_add, ← e]
  show a = 2147483648 + (a - 2147483648)
  rw [Int64.add_comm, Int64.sub_add_cancel]
theorem m_at (pg a : Int64) {n : Nat} (h : n ≤ 3) : 4096 * pg + 8 * (k_ush a (12 + 9 * nI n) &&& 511) = k_entryPlace pg a (nI n) := by
  sorry
theorem sort8 {t : Int64} : k_ush t 60 = 8 ↔ k_sortOf t = 8 := by
  sorry
theorem sort0 {t : Int64} : k_ush t 60 = 0 ↔ k_sortOf t = 0 := by
  sorry
theorem sort9 {t : Int64} : k_ush t 60 = 9 ↔ k_sortOf t = 9 := by
  sorry
theorem last_eq (e : Int64) : k_isLast e = (m_bit e 1 || m_bit e 3) := by
  sorry
theorem mal_eq (e : Int64) : k_isMalformed e = (m_isBroken e || (!(m_bit e 1 || m_bit e 3) && (m_bit e 4 || m_bit e 6 || m_bit e 7))) := by
  sorry
theorem grants_eq {su mx : Bool} {ac md : Int32} (hmd : md = 0 ∨ md = 1) (hac : ac = 0 ∨ ac = 1 ∨ ac = 2) (e : Int64) (d : Int32) :
    k_grants su mx e ac md d = (decide (k_pageNumber e &&& (k_shl 1 (9 * d) - 1) = 0) && !m_refuses su mx e ac md) := by
  sorry
theorem m_marks (e : Int64) (ac : Int32) : (e &&& k_marks ac = k_marks ac) ↔ (m_bit e 6 = true ∧ (ac = 2 → m_bit e 7 = true)) := by
  sorry
theorem km2 : k_marks 2 = 192 := rfl
theorem target_eq {e a : Int64} {n : Nat} (h : n ≤ 3) (hl : k_pageNumber e &&& (k_shl 1 (9 * nI n) - 1) = 0) : 4096 * k_pageNumber e + (a &&& (4096 * (k_shl 1 (9 * nI n) - 1) + 4095)) = k_target e a (nI n) := by
  sorry
theorem phys_ok {a : Int64} (h : k_ush a 56 = 0) : okA a := by
  sorry
theorem find_ok {w : Nat → Int64} {t : Int64} {su mx : Bool} {cf : Nat → Int32} {nu : Nat → Int64} {a : Int64} {ac md : Int32} (h : ¬ (k_walk0 w t su mx cf nu a ac md).1 < 0) : okA (k_walk0 w t su mx cf nu a ac md).1 := by
  sorry
theorem md01 {md : Int32} (h : md = 0 ∨ md = 1 ∨ md = 3) (h3 : ¬ md = 3) : md = 0 ∨ md = 1 := by
  rcases h with h | h | h
  · exact Or.inl h
  · exact Or.inr h
  · exact absurd h h3
theorem tr_eq (w : Nat → Int64) (t : Int64) (su mx : Bool) (cf : Nat → Int32) (nu : Nat → Int64) (a : Int64) (ac md : Int32) :
    k_translate w t su mx cf nu a ac md = if md = 3 ∨ k_sortOf t = 0 then (if k_isPhysical a = true then (a, w) else (k_accessFault ac, w)) else k_walk0 w t su mx cf nu a ac md := rfl
