def R_law : String := "PageWalkerLaw"
def lw_P (b : Addr) (xs : List Int32) (args : Array Value) (s : State) : Prop := args = #[.ref b] ∧ s.IntsAt b xs ∧ xs.length ≤ 3072 ∧ (Jvm.Cond.and given_1 narrow_1).before args s = true
def lw_Q (_ : Array Value) (s : State) (o : Outcome) (t : State) : Prop := o = .returned (some (.int 1)) ∧ Framed s o t [] 1041 24667
def lw_Z (below : List Frame) (a : Array Value) (s : State) : State → Prop := fun t => ∃ o, t.status = .running ∧ Ended t below o ∧ lw_Q a s o t
theorem lw_ret {p : Program} {l : Launch} {e : Env} {s : State} {m : MethodId} {below : List Frame} {meth : Method} {c : Code} {b : Nat} (hx : p.tables.exec = Jvm.exec) (hb : c.code = code) (hr : meth.sig.returnType = ret) (hlocks : meth.locks = false) {pc : Nat} {H : Heap} {ls : Array Slot} (hdg : decode code pc = .ok (.ireturn, 1)) : W p l e room_1 s m #[Value.ref b] below meth c H [] 1041 24667 (lw_Z below #[Value.ref b] s) (F0 m pc ls [.int 1]) := by
  intro T hT X
  obtain ⟨fs, hret, hrun, hended, hW, hframe⟩ := X.leave (v := some (.int 1)) (hlocks := hlocks) (fun h => by rw [hr] at h; cases h)
  have hmeth' : T.vm.method? m = some meth := X.method'
  refine ⟨T.setFrames fs, ?_, .returned (some (.int 1)), hrun, hended, rfl, ⟨_, rfl⟩, hW, hframe⟩
  jvm_step X.here [X.here.top, hx, hb, hdg, hmeth', hr, ret, narrow_b1]
  (try refine ⟨rfl, ?_⟩); (try refine ⟨rfl, ?_⟩)
  first | (intro acts; rw [hret _ acts rfl rfl rfl]) | rw [hret _ _ rfl rfl rfl]
  exact Steps.refl _
def lw_At (p : Program) (s : State) (m : MethodId) (meth : Method) (c : Code) (b L : Nat) (xs : Nat → Int32) : Prop :=
  p.tables.exec = Jvm.exec ∧ c.code = code ∧ meth.sig.returnType = ret ∧ c.maxLocals = 8 ∧ s.vm.findClass R_law = some m.cls ∧ (∀ w ∈ lw_tbl, w.before #[Value.ref b] s = true) ∧ va_X b L xs s s.heap ∧ b < s.heap.size ∧ meth.locks = false ∧ (Jvm.Cond.and given_1 narrow_1).before #[Value.ref b] s = true
def mkL (a b : Int32) : Int64 := (k_shl (Int32.toInt64 a) 32) ||| ((Int32.toInt64 b) &&& 4294967295)
theorem sc_ix (j : Nat) (x : Int32) (k : Nat) (h : x = nI k) : nI (6 * j) + x = nI (6 * j + k) := by rw [h, nI_add]
theorem hl_pre {s : State} {H : Heap} {D : va_G} {cl : List vw_C} {ws : va_W} {tys : List (ClassId × FieldType)} {A : Nat → Prop} {As : List Value} (hK : va_K D cl tys s) (hP : va_P D cl ws H) (hD : va_D A ws) :
    PreS s H (va_Pc As (fun U => U.heap.size = H.size ∧ va_P D cl ws U.heap ∧ va_K D cl tys U ∧ va_D (fun _ => True) ws)) As :=
  ⟨fun a U g mk z => ⟨z.1, z.2.1, z.2.2.1, va_K.moved (u := U) (U := U.calling g mk a) (Vm.Alike.refl U.vm) z.2.2.2.1, z.2.2.2.2⟩, fun U hU hW => ⟨rfl, by rw [hU], by rw [hU]; exact hP, va_K.moved hW.alike hK, hD.weaken (fun _ _ _ _ => trivial)⟩⟩
theorem xR.go2 {own tx E : String} {is sa : Nat} {A A' : Nat → Prop} {s U : State} {H : Heap} {locs : List Loc} (h : xR own is tx sa E A s) (hS : va_S A s.heap H locs) (hs : ∀ q, A' q → A q) (hU : U.heap = H) (hW : s.WarmedH U.vm) : xR own is tx sa E A' U :=
  ⟨vk_R.warm hW h.1, xB.warm hW h.2.1, by rw [hU]; exact vx_Zq.moved hW.alike ((h.2.2.1.kept hS.2.1).narrow hs), by rw [hU]; exact vx_Zq.moved hW.alike ((h.2.2.2.kept hS.2.1).narrow hs)⟩
theorem hl_preX {s : State} {H : Heap} {D : va_G} {cl : List vw_C} {ws : va_W} {tys : List (ClassId × FieldType)} {A : Nat → Prop} {As : List Value} {own tx E : String} {is sa : Nat} {locs : List Loc} (hK : va_K D cl tys s) (hP : va_P D cl ws H) (hD : va_D A ws) (hX : xR own is tx sa E A s) (hS : va_S A s.heap H locs) (hF : ∀ q, va_A ws H.size q → A q) :
    PreS s H (va_Pc As (fun U => U.heap.size = H.size ∧ va_P D cl ws U.heap ∧ va_K D cl tys U ∧ va_D (fun _ => True) ws ∧ xR own is tx sa E (va_A ws H.size) U)) As :=
  ⟨fun a U g mk z => ⟨z.1, z.2.1, z.2.2.1, va_K.moved (u := U) (U := U.calling g mk a) (Vm.Alike.refl U.vm) z.2.2.2.1, z.2.2.2.2.1, xR.blind z.2.2.2.2.2⟩, fun U hU hW => ⟨rfl, by rw [hU], by rw [hU]; exact hP, va_K.moved hW.alike hK, hD.weaken (fun _ _ _ _ => trivial), hX.go2 hS hF hU hW⟩⟩
theorem sortM {t : Int64} : (k_ush t 60 = 0 ∨ k_ush t 60 = 8 ∨ k_ush t 60 = 9) ↔ (k_sortOf t = 0 ∨ k_sortOf t = 8 ∨ k_sortOf t = 9) := by rw [sort0, sort8, sort9]
theorem le7 {i : Int32} (h : i ≤ 7) : i < 8 := by
  rw [Int32.le_iff_toInt_le] at h
  rw [Int32.lt_iff_toInt_lt]
  have e7 : (7 : Int32).toInt = 7 := by decide
  have e8 : (8 : Int32).toInt = 8 := by decide
  omega
theorem pack_eq {cf : Nat → Int32} (hc : okC cf) : k_packF cf 8 = m_packF cf 8 := by
  sorry
theorem okN_take {cf : Nat → Int32} {nu : Nat → Int64} (hn : okN nu) {r : Nat} {v : Int64} : okN (k_takeNumber cf nu r v) := by
  sorry
theorem acc_split (a : Int64) (ac md sz : Int32) : k_isAccess a ac md sz = (m_isAccess ac md sz && m_isWithin a sz) := by
  sorry
theorem acc_size {a : Int64} {ac md sz : Int32} (h : k_isAccess a ac md sz = true) : ∃ n : Nat, okS n ∧ sz = nI n := by
  sorry
theorem acc_parts {a : Int64} {ac md sz : Int32} (h : k_isAccess a ac md sz = true) : m_isAccess ac md sz = true ∧ m_isWithin a sz = true ∧ (md = 0 ∨ md = 1 ∨ md = 3) ∧ (ac = 0 ∨ ac = 1 ∨ ac = 2) := by
  sorry
theorem acc_no {a : Int64} {ac md sz : Int32} (h : k_isAccess a ac md sz = false) : ¬ (m_isAccess ac md sz = true ∧ m_isWithin a sz = true) := by
  rw [acc_split] at h
  rintro ⟨h1, h2⟩
  rw [h1, h2] at h
  cases h
theorem acc_no2 {a : Int64} {ac md sz : Int32} (h : ¬ (k_isAccess a ac md sz = true ∧ k_isPhysical a = true)) : ¬ (m_isAccess ac md sz = true ∧ m_isWithin a sz = true ∧ k_ush a 56 = 0) := by
  rintro ⟨h1, h2, h3⟩
  exact h ⟨by rw [acc_split, h1, h2]; rfl, by unfold k_isPhysical; rw [h3]; rfl⟩
abbrev wLW (cL : ClassId) (cI : ClassId) (q0 : Nat) (qw : Nat) (qr : Nat) (qc : Nat) (qn : Nat) (qo : Nat) (g0 : Nat) (gm : Nat) (gc : Nat) (gn : Nat) (w : Nat → Int64) (tb : Int64) (su : Bool) (mx : Bool) (cf : Nat → Int32) (nu : Nat → Int64) (cd : Int32) (fr : Int64) (tt : Int64) (ov : Nat → Int64) : va_W := [(qo, .inl (cL, 1, .inr (.inl ov))), (q0, .inr (1, [.ref qw, .ref qr, .long tb, .int (b2i su), .int (b2i mx)])), (qw, .inl (cL, 8192, .inr (.inl w))), (qr, .inr (0, [.ref qc, .ref qn])), (qc, .inl (cI, 8, .inl cf)), (qn, .inl (cL, 8, .inr (.inl nu))), (g0, .inr (2, [.int cd, .ref gm, .long tb, .int (b2i su), .int (b2i mx), .ref gc, .ref gn, .long fr, .long tt])), (gm, .inl (cL, 8192, .inr (.inl w))), (gc, .inl (cI, 8, .inl cf)), (gn, .inl (cL, 8, .inr (.inl nu)))]
