def R_law : String := "PageWalkerLaw"
def lw_P (b : Addr) (xs : List Int32) (args : Array Value) (s : State) : Prop := args = #[.ref b] ∧ s.IntsAt b xs ∧ xs.length ≤ 3072 ∧ (Jvm.Cond.and given_1 narrow_1).before args s = true
def lw_Q (_ : Array Value) (s : State) (o : Outcome) (t : State) : Prop := o = .returned (some (.int 1)) ∧ Framed s o t [] 1041 24667
def lw_Z (below : List Frame) (a : Array Value) (s : State) : State → Prop := fun t => ∃ o, t.status = .running ∧ Ended t below o ∧ lw_Q a s o t
theorem lw_ret {p : Program} {l : Launch} {e : Env} {s : State} {m : MethodId} {below : List Frame} {meth : Method} {c : Code} {b : Nat} (hx : p.tables.exec = Jvm.exec) (hb : c.code = code) (hr : meth.sig.returnType = ret) (hlocks : meth.locks = false) {pc : Nat} {H : Heap} {ls : Array Slot} (hdg : decode code pc = .ok (.ireturn, 1)) : W p l e room_1 s m #[Value.ref b] below meth c H [] 1041 24667 (lw_Z below #[Value.ref b] s) (F0 m pc ls [.int 1]) := by
  intro T hT X
  obtain ⟨fs, hret, hrun, hended, hW, hframe⟩ := X.leave (v := some (.int 1)) (hlocks := hlocks) (fun h => by rw [hr] at h; cases h)
  have hmeth' : T.vm.method? m = some meth := X.method'
  refine ⟨T.setFrames fs, ?_, .returned (some (.int 1)), hrun, hended, rfl, ⟨_, rfl⟩, hW, hframe⟩
  jvm_step X.here [X.here.top, hx, hb, hdg, hmeth', hr, ret, narrow_b1]
  (try refine ⟨rfl, ?_⟩); (try refine ⟨rfl, ?_⟩)
  first | (intro acts; rw [hret _ acts rfl rfl rfl]) | rw [hret _ _ rfl rfl rfl]
  exact Steps.refl _
def lw_At (p : Program) (s : State) (m : MethodId) (meth : Method) (c : Code) (b L : Nat) (xs : Nat → Int32) : Prop :=
  p.tables.exec = Jvm.exec ∧ c.code = code ∧ meth.sig.returnType = ret ∧ c.maxLocals = 8 ∧ s.vm.findClass R_law = some m.cls ∧ (∀ w ∈ lw_tbl, w.before #[Value.ref b] s = true) ∧ va_X b L xs s s.heap ∧ b < s.heap.size ∧ meth.locks = false ∧ (Jvm.Cond.and given_1 narrow_1).before #[Value.ref b] s = true
def mkL (a b : Int32) : Int64 := (k_shl (Int32.toInt64 a) 32) ||| ((Int32.toInt64 b) &&& 4294967295)
theorem sc_ix (j : Nat) (x : Int32) (k : Nat) (h : x = nI k) : nI (6 * j) + x = nI (6 * j + k) := by rw [h, nI_add]
theorem hl_pre {s : State} {H : Heap} {D : va_G} {cl : List vw_C} {ws : va_W} {tys : List (ClassId × FieldType)} {A : Nat → Prop} {As : List Value} (hK : va_K D cl tys s) (hP : va_P D cl ws H) (hD : va_D A ws) :
    PreS s H (va_Pc As (fun U => U.heap.size = H.size ∧ va_P D cl ws U.heap ∧ va_K D cl tys U ∧ va_D (fun _ => True) ws)) As :=
  ⟨fun a U g mk z => ⟨z.1, z.2.1, z.2.2.1, va_K.moved (u := U) (U := U.calling g mk a) (Vm.Alike.refl U.vm) z.2.2.2.1, z.2.2.2.2⟩, fun U hU hW => ⟨rfl, by rw [hU], by rw [hU]; exact hP, va_K.moved hW.alike hK, hD.weaken (fun _ _ _ _ => trivial)⟩⟩
theorem xR.go2 {own tx E : String} {is sa : Nat} {A A' : Nat → Prop} {s U : State} {H : Heap} {locs : List Loc} (h : xR own is tx sa E A s) (hS : va_S A s.heap H locs) (hs : ∀ q, A' q → A q) (hU : U.heap = H) (hW : s.WarmedH U.vm) : xR own is tx sa E A' U :=
  ⟨vk_R.warm hW h.1, xB.warm hW h.2.1, by rw [hU]; exact vx_Zq.moved hW.alike ((h.2.2.1.kept hS.2.1).narrow hs), by rw [hU]; exact vx_Zq.moved hW.alike ((h.2.2.2.kept hS.2.1).narrow hs)⟩
theorem hl_preX {s : State} {H : Heap} {D : va_G} {cl : List vw_C} {ws : va_W} {tys : List (ClassId × FieldType)} {A : Nat → Prop} {As : List Value} {own tx E : String} {is sa : Nat} {locs : List Loc} (hK : va_K D cl tys s) (hP : va_P D cl ws H) (hD : va_D A ws) (hX : xR own is tx sa E A s) (hS : va_S A s.heap H locs) (hF : ∀ q, va_A ws H.size q → A q) :
    PreS s H (va_Pc As (fun U => U.heap.size = H.size ∧ va_P D cl ws U.heap ∧ va_K D cl tys U ∧ va_D (fun _ => True) ws ∧ xR own is tx sa E (va_A ws H.size) U)) As :=
  ⟨fun a U g mk z => ⟨z.1, z.2.1, z.2.2.1, va_K.moved (u := U) (U := U.calling g mk a) (Vm.Alike.refl U.vm) z.2.2.2.1, z.2.2.2.2.1, xR.blind z.2.2.2.2.2⟩, fun U hU hW => ⟨rfl, by rw [hU], by rw [hU]; exact hP, va_K.moved hW.alike hK, hD.weaken (fun _ _ _ _ => trivial), hX.go2 hS hF hU hW⟩⟩
theorem sortM {t : Int64} : (k_ush t 60 = 0 ∨ k_ush t 60 = 8 ∨ k_ush t 60 = 9) ↔ (k_sortOf t = 0 ∨ k_sortOf t = 8 ∨ k_sortOf t = 9) := by rw [sort0, sort8, sort9]
theorem le7 {i : Int32} (h : i ≤ 7) : i < 8 := by
  rw [Int32.le_iff_toInt_le] at h
  rw [Int32.lt_iff_toInt_lt]
  have e7 : (7 : Int32).toInt = 7 := by decide
  have e8 : (8 : Int32).toInt = 8 := by decide
  omega
def sS (c : Nat → Nat) : Nat → Nat
  | 0 => 0
  | n + 1 => sS c n + c n * 2 ^ (8 * n)
def sM (c : Nat → Nat) : Nat → Nat
  | 0 => 0
  | n + 1 => 256 * sM c n + c (7 - n)
theorem packS {cf : Nat → Int32} {c : Nat → Nat} (hc : ∀ i, i < 8 → c i < 256 ∧ cf i = nI (c i)) (n : Nat) (hn : n ≤ 8) : sS c n < 2 ^ (8 * n) ∧ k_packF cf n = lN (sS c n) := by
  induction n with
  | zero => exact ⟨Nat.two_pow_pos _, rfl⟩
  | succ n ih =>
    obtain ⟨h1, h2⟩ := ih (by omega)
    obtain ⟨h3, h4⟩ := hc n (by omega)
    have e8 : 2 ^ (8 * (n + 1)) = 256 * 2 ^ (8 * n) := by rw [Nat.mul_add, Nat.pow_add, Nat.mul_comm]
    have hq : 2 ^ (8 * (n + 1)) ≤ 2 ^ 64 := Nat.pow_le_pow_right (by decide) (by omega)
    have hm : c n * 2 ^ (8 * n) ≤ 255 * 2 ^ (8 * n) := Nat.mul_le_mul_right _ (by omega)
    refine ⟨?_, ?_⟩
    · show sS c n + c n * 2 ^ (8 * n) < _
      omega
    · show k_packF cf n ||| k_shl (Int32.toInt64 (cf n)) (8 * nI n) = lN (sS c n + c n * 2 ^ (8 * n))
      rw [h2, h4, nI_l (by omega), show (8 : Int32) * nI n = nI (8 * n) from (Int32.ofNat_mul 8 n).symm]
      have e : k_shl (lN (c n)) (nI (8 * n)) = lN (c n * 2 ^ (8 * n)) := wb_shl (c n) (by omega)
      rw [e, Int64.or_comm, g_or rfl h1 (by omega), Nat.add_comm]
theorem packM {cf : Nat → Int32} {c : Nat → Nat} (hc : ∀ i, i < 8 → c i < 256 ∧ cf i = nI (c i)) (n : Nat) (hn : n ≤ 8) : m_packF cf n = lN (sM c n) := by
  induction n with
  | zero => rfl
  | succ n ih =>
    obtain ⟨h3, h4⟩ := hc (7 - n) (by omega)
    show 256 * m_packF cf n + Int32.toInt64 (cf (7 - n)) = lN (256 * sM c n + c (7 - n))
    rw [ih (by omega), h4, nI_l (by omega), show (256 : Int64) = lN 256 from rfl, lN_mul, lN_add]
theorem pack_eq {cf : Nat → Int32} (hc : okC cf) : k_packF cf 8 = m_packF cf 8 := by
  have h : ∀ i, i < 8 → (cf i).toNatClampNeg < 256 ∧ cf i = nI (cf i).toNatClampNeg := by
    intro i hi
    obtain ⟨m, hm, e⟩ := hc i hi
    rw [e, nI_clamp (by omega)]
    exact ⟨hm, rfl⟩
  rw [(packS h 8 (by omega)).2, packM h 8 (by omega)]
  congr 1
  generalize (fun i => (cf i).toNatClampNeg) = c
  simp only [sS, sM, Nat.reduceSub, Nat.sub_self, Nat.sub_zero]
  omega
theorem okN_take {cf : Nat → Int32} {nu : Nat → Int64} (hn : okN nu) {r : Nat} {v : Int64} : okN (k_takeNumber cf nu r v) := by
  unfold k_takeNumber
  by_cases h : k_isLocked (cf r) = true ∨ k_isFixed cf r = true
  · rw [if_pos h]; exact hn
  · rw [if_neg h]
    intro i hi
    by_cases e : i = r
    · subst e
      rw [pk_uLs]
      obtain ⟨x, hx, rfl⟩ := wb_of v
      exact ⟨x % 2 ^ 54, by omega, wb_mask (k := 54) hx (by decide)⟩
    · rw [pk_uLn e]
      exact hn i hi
theorem ac012 (ac : Int32) : (decide (ac = 0) || decide (ac = 1) || decide (ac = 2)) = (!decide (ac < 0) && !decide (3 ≤ ac)) := by
  by_cases h0 : ac < 0
  · rw [decide_eq_true h0]
    have n0 : ¬ ac = 0 := fun e => by subst e; exact absurd h0 (by decide)
    have n1 : ¬ ac = 1 := fun e => by subst e; exact absurd h0 (by decide)
    have n2 : ¬ ac = 2 := fun e => by subst e; exact absurd h0 (by decide)
    rw [decide_eq_false n0, decide_eq_false n1, decide_eq_false n2]; rfl
  · rw [decide_eq_false h0]
    obtain ⟨j, hj, rfl⟩ := nI_of h0
    have d0 : decide (nI j = 0) = decide (j = 0) := decide_eq_decide.mpr (nI_eq (a := j) (b := 0) hj (by omega))
    have d1 : decide (nI j = 1) = decide (j = 1) := decide_eq_decide.mpr (nI_eq (a := j) (b := 1) hj (by omega))
    have d2 : decide (nI j = 2) = decide (j = 2) := decide_eq_decide.mpr (nI_eq (a := j) (b := 2) hj (by omega))
    have d3 : decide (3 ≤ nI j) = decide (3 ≤ j) := decide_eq_decide.mpr (nI_leI (a := 3) (b := j) (by omega) hj)
    rw [d0, d1, d2, d3]
    by_cases h : 3 ≤ j
    · simp [h]; omega
    · simp [h]; omega
theorem acc_split (a : Int64) (ac md sz : Int32) : k_isAccess a ac md sz = (m_isAccess ac md sz && m_isWithin a sz) := by
  unfold k_isAccess m_isAccess m_isWithin
  rw [ac012]
  generalize (!decide (ac < 0) && !decide (3 ≤ ac)) = p1
  generalize (decide (md = 0) || decide (md = 1) || decide (md = 3)) = p2
  generalize (decide (sz = 1) || decide (sz = 2) || decide (sz = 4) || decide (sz = 8)) = p3
  generalize (!decide ((4096 : Int64) < (a &&& 4095) + Int32.toInt64 sz)) = p4
  cases p1 <;> cases p2 <;> cases p3 <;> cases p4 <;> rfl
theorem acc_size {a : Int64} {ac md sz : Int32} (h : k_isAccess a ac md sz = true) : ∃ n : Nat, okS n ∧ sz = nI n := by
  unfold k_isAccess at h
  simp only [Bool.and_eq_true, Bool.or_eq_true, decide_eq_true_eq] at h
  rcases h.1.2 with ((e | e) | e) | e
  · exact ⟨1, Or.inl rfl, e⟩
  · exact ⟨2, Or.inr (Or.inl rfl), e⟩
  · exact ⟨4, Or.inr (Or.inr (Or.inl rfl)), e⟩
  · exact ⟨8, Or.inr (Or.inr (Or.inr rfl)), e⟩
theorem acc_parts {a : Int64} {ac md sz : Int32} (h : k_isAccess a ac md sz = true) : m_isAccess ac md sz = true ∧ m_isWithin a sz = true ∧ (md = 0 ∨ md = 1 ∨ md = 3) ∧ (ac = 0 ∨ ac = 1 ∨ ac = 2) := by
  have h2 := h
  rw [acc_split, Bool.and_eq_true] at h2
  unfold k_isAccess at h
  simp only [Bool.and_eq_true, Bool.or_eq_true, decide_eq_true_eq] at h
  refine ⟨h2.1, h2.2, ?_, ?_⟩
  · rcases h.1.1.2 with (e | e) | e
    · exact Or.inl e
    · exact Or.inr (Or.inl e)
    · exact Or.inr (Or.inr e)
  · rcases h.1.1.1 with (e | e) | e
    · exact Or.inl e
    · exact Or.inr (Or.inl e)
    · exact Or.inr (Or.inr e)
theorem acc_no {a : Int64} {ac md sz : Int32} (h : k_isAccess a ac md sz = false) : ¬ (m_isAccess ac md sz = true ∧ m_isWithin a sz = true) := by
  rw [acc_split] at h
  rintro ⟨h1, h2⟩
  rw [h1, h2] at h
  cases h
theorem acc_no2 {a : Int64} {ac md sz : Int32} (h : ¬ (k_isAccess a ac md sz = true ∧ k_isPhysical a = true)) : ¬ (m_isAccess ac md sz = true ∧ m_isWithin a sz = true ∧ k_ush a 56 = 0) := by
  rintro ⟨h1, h2, h3⟩
  exact h ⟨by rw [acc_split, h1, h2]; rfl, by unfold k_isPhysical; rw [h3]; rfl⟩
abbrev wLW (cL : ClassId) (cI : ClassId) (q0 : Nat) (qw : Nat) (qr : Nat) (qc : Nat) (qn : Nat) (qo : Nat) (g0 : Nat) (gm : Nat) (gc : Nat) (gn : Nat) (w : Nat → Int64) (tb : Int64) (su : Bool) (mx : Bool) (cf : Nat → Int32) (nu : Nat → Int64) (cd : Int32) (fr : Int64) (tt : Int64) (ov : Nat → Int64) : va_W := [(qo, .inl (cL, 1, .inr (.inl ov))), (q0, .inr (1, [.ref qw, .ref qr, .long tb, .int (b2i su), .int (b2i mx)])), (qw, .inl (cL, 8192, .inr (.inl w))), (qr, .inr (0, [.ref qc, .ref qn])), (qc, .inl (cI, 8, .inl cf)), (qn, .inl (cL, 8, .inr (.inl nu))), (g0, .inr (2, [.int cd, .ref gm, .long tb, .int (b2i su), .int (b2i mx), .ref gc, .ref gn, .long fr, .long tt])), (gm, .inl (cL, 8192, .inr (.inl w))), (gc, .inl (cI, 8, .inl cf)), (gn, .inl (cL, 8, .inr (.inl nu)))]
