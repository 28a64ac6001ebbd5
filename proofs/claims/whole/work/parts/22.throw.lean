/-! What a throw needs of the state, and how it is carried. -/
def xB (E : String) (U : State) : Prop := va_Nw (.declares (Bundle.initS "java/lang/RuntimeException")) U ∧ va_Nw (.declares (Bundle.initS "java/lang/Exception")) U ∧ va_Nw (.declares (Bundle.initS Bundle.tN)) U ∧ va_Nw (.castable E E) U
theorem xB.warm {E : String} {s U : State} (hW : s.WarmedH U.vm) (h : xB E s) : xB E U := ⟨va_Nw.warmD hW h.1, va_Nw.warmD hW h.2.1, va_Nw.warmD hW h.2.2.1, va_Nw.warmC hW h.2.2.2⟩
theorem xB.same {E : String} {u U : State} (hv : u.vm = U.vm) (h : xB E u) : xB E U := ⟨va_Nw.same rfl hv h.1, va_Nw.same rfl hv h.2.1, va_Nw.same rfl hv h.2.2.1, va_Nw.same rfl hv h.2.2.2⟩
def xR (own : String) (is : Nat) (tx : String) (sa : Nat) (E : String) (A : Nat → Prop) (U : State) : Prop :=
  vk_R own is tx sa U ∧ xB E U ∧ vx_Zq Bundle.tN "UNASSIGNED_STACK" Bundle.steD A U U.heap ∧ vx_Zq Bundle.tN "SUPPRESSED_SENTINEL" Bundle.listD A U U.heap
theorem xR.go {own tx E : String} {is sa : Nat} {A : Nat → Prop} {s U : State} {H : Heap} {locs : List Loc} (h : xR own is tx sa E A s) (hS : va_S A s.heap H locs) (hA : ∀ q, s.heap.size ≤ q → A q) (hU : U.heap = H) (hW : s.WarmedH U.vm) :
    xR own is tx sa E (fun q => H.size ≤ q) U :=
  ⟨vk_R.warm hW h.1, xB.warm hW h.2.1, by rw [hU]; exact vx_Zq.moved hW.alike ((h.2.2.1.kept hS.2.1).narrow (fun q hq => hA q (Nat.le_trans hS.1 hq))), by rw [hU]; exact vx_Zq.moved hW.alike ((h.2.2.2.kept hS.2.1).narrow (fun q hq => hA q (Nat.le_trans hS.1 hq)))⟩
theorem xR.blind {own tx E : String} {is sa : Nat} {A : Nat → Prop} {U : State} {g : JFrame} {mk : MethodId} {a : Array Value} (h : xR own is tx sa E A U) : xR own is tx sa E A (U.calling g mk a) :=
  ⟨vk_R.same (u := U) rfl h.1, xB.same (u := U) rfl h.2.1, vx_Zq.moved (u := U) (U := U.calling g mk a) (Vm.Alike.refl U.vm) h.2.2.1, vx_Zq.moved (u := U) (U := U.calling g mk a) (Vm.Alike.refl U.vm) h.2.2.2⟩
theorem xr_pre {own tx E : String} {is sa : Nat} {A : Nat → Prop} {s : State} {H : Heap} {locs : List Loc} {D : va_G} {cl : List vw_C} {ws : va_W} {tys : List (ClassId × FieldType)} {q : vw_C} {b ci q0 : Nat} {fs As : List Value}
    (hK : va_K D cl tys s) (hP : va_P D cl ws H) (hc : cl[ci]? = some q) (he : ws[q0]? = some (b, .inr (ci, fs))) (h : xR own is tx sa E A s) (hS : va_S A s.heap H locs) (hA : ∀ q, s.heap.size ≤ q → A q) :
    PreV s H q.1 b (va_Pc (.ref b :: As) (fun U => U.heap.size = H.size ∧ xR own is tx sa E (fun q => H.size ≤ q) U)) As :=
  ⟨fun a U g mk z => ⟨z.1, z.2.1, xR.blind z.2.2⟩, va_recv hK hP hc he, fun U hU hW => ⟨rfl, by rw [hU], h.go hS hA hU hW⟩⟩
theorem xr_preP {own tx E : String} {is sa : Nat} {A : Nat → Prop} {s : State} {H : Heap} {locs : List Loc} {D : va_G} {cl : List vw_C} {ws : va_W} {tys : List (ClassId × FieldType)} {q : vw_C} {b ci q0 : Nat} {fs As : List Value}
    (hK : va_K D cl tys s) (hP : va_P D cl ws H) (hc : cl[ci]? = some q) (he : ws[q0]? = some (b, .inr (ci, fs))) (h : xR own is tx sa E A s) (hS : va_S A s.heap H locs) (hA : ∀ q, s.heap.size ≤ q → A q) :
    PreV s H q.1 b (va_Pc (.ref b :: As) (fun U => U.heap.size = H.size ∧ (va_P D cl ws U.heap ∧ va_K D cl tys U) ∧ xR own is tx sa E (fun q => H.size ≤ q) U)) As :=
  ⟨fun a U g mk z => ⟨z.1, z.2.1, ⟨z.2.2.1.1, va_K.moved (u := U) (U := U.calling g mk a) (Vm.Alike.refl U.vm) z.2.2.1.2⟩, xR.blind z.2.2.2⟩, va_recv hK hP hc he, fun U hU hW => ⟨rfl, by rw [hU], ⟨by rw [hU]; exact hP, va_K.moved hW.alike hK⟩, h.go hS hA hU hW⟩⟩
abbrev xE1 : String := "java/lang/IndexOutOfBoundsException"
abbrev xE2 : String := "java/lang/IllegalArgumentException"
abbrev xN : List String := ["java/lang/RuntimeException", "java/lang/Exception"]
abbrev xBad (E : String) : List Cond := [.declares (Bundle.initS "java/lang/RuntimeException"), .declares (Bundle.initS "java/lang/Exception"), .declares (Bundle.initS Bundle.tN), .castable E E]
theorem xB.all {E : String} {args : Array Value} {s : State} (h : xB E s) : ∀ w ∈ xBad E, w.before args s = true :=
  vx_c (va_Nw.use rfl h.1) (vx_c (va_Nw.use rfl h.2.1) (vx_c (va_Nw.use rfl h.2.2.1) (vx_c (va_Nw.use rfl h.2.2.2) vx_n)))
theorem xg_X1_39 {c0 : Cond} : ∀ w ∈ (vx_atS RX1 39 xE1 xN).filter goodWord, w ∈ c0 :: wsAll := wc (by decide +kernel) (by decide +kernel)
theorem xb_X1_39 : ∀ w ∈ (vx_atS RX1 39 xE1 xN).filter (fun w => !goodWord w), w ∈ xBad xE1 := by decide +kernel
theorem xg_X1_49 {c0 : Cond} : ∀ w ∈ (vx_atS RX1 49 xE2 xN).filter goodWord, w ∈ c0 :: wsAll := wc (by decide +kernel) (by decide +kernel)
theorem xb_X1_49 : ∀ w ∈ (vx_atS RX1 49 xE2 xN).filter (fun w => !goodWord w), w ∈ xBad xE2 := by decide +kernel
theorem xg_X0_31 {c0 : Cond} : ∀ w ∈ (vx_atS RX0 31 xE1 xN).filter goodWord, w ∈ c0 :: wsAll := wc (by decide +kernel) (by decide +kernel)
theorem xb_X0_31 : ∀ w ∈ (vx_atS RX0 31 xE1 xN).filter (fun w => !goodWord w), w ∈ xBad xE1 := by decide +kernel
